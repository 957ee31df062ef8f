def k_X7_pickUp_2 : en_K := (2, ([.inr (.inl 20), .inl ((-2147483648), 2147483647, 0, 0), .inl (1, 1, 0, 0), .inl ((-1), (-1), 0, 0)], [(0, 0, 22, 2, 0, 0), (0, 0, 28, 3, 0, 0), (5, 0, 0, 0, 0, 0)]), [([.inr (.inl 20), .inl ((-2147483648), 2147483647, 0, 0), .inl ((-2147483648), 2147483647, 0, 0), .inl ((-1), (-1), 0, 0)], [(0, 0, 28, 3, 0, 0), (5, 0, 0, 0, 0, 0)])], [(20, 28), (20, 30), (27, 0)], [20, 26, 27], (0, 0), [])
def u_X7_pickUp_2 : List en_U := []
def x_X7_pickUp_2 : en_Cx := ((en_KT, en_TY0, en_om0), en_FTX7, en_PTX7, [(110, true, 13, 0, 0, k_X7_isThrown_3), (110, true, 13, 0, 0, k_X7_isThrown_4), (110, true, 13, 0, 0, k_X7_isThrown_5), (110, true, 13, 0, 0, k_X7_isThrown_6), (110, true, 13, 0, 0, k_X7_isThrown_7), (132, true, 13, 0, 1, k_X7_isNoPlayer_1), (163, true, 13, 0, 0, k_X7_isDone_0), (169, true, 13, 0, 1, k_X7_notDone_0)], en_LTX7, en_LLX7, en_TTX7, en_ACX7)
def m_X7_pickUp_2 : en_Mx := (k_X7_pickUp_2, 2, 2, (0, 0), tb_X7_pickUp, [])
set_option maxRecDepth 100000 in
theorem ck_X7_pickUp_2 : en_all x_X7_pickUp_2 m_X7_pickUp_2 u_X7_pickUp_2 38 = true := by decide +kernel
theorem ct_X7_pickUp_2 {l : Launch} (hl : l.stackTraces = false) {cx cy : Int32} : en_Ctr l vwCl en_TY0 (en_Pc cx cy) en_om0 (en_Of cx cy) en_KT yX7_pickUp (Cond.code yX7_pickUp cX7_pickUp 2 (some .int) :: en_cw) (en_rm 2 (0, 0)) 0 k_X7_pickUp_2 :=
  en_main (X := x_X7_pickUp_2) (M := m_X7_pickUp_2) en_Pc_ok en_f32_ok en_f64_ok hl (by decide +kernel) ⟨en_FTX7_ok, en_PTX7_ok, en_ac (⟨yX7_isThrown, RX7, cX7_isThrown, 3, (some .boolean), by decide, ct_X7_isThrown_3 hl, fun _ => ⟨gc_RX7_110v, by decide, _, rfl, rfl⟩, fun h => Bool.noConfusion h⟩) (en_ac (⟨yX7_isThrown, RX7, cX7_isThrown, 3, (some .boolean), by decide, ct_X7_isThrown_4 hl, fun _ => ⟨gc_RX7_110v, by decide, _, rfl, rfl⟩, fun h => Bool.noConfusion h⟩) (en_ac (⟨yX7_isThrown, RX7, cX7_isThrown, 3, (some .boolean), by decide, ct_X7_isThrown_5 hl, fun _ => ⟨gc_RX7_110v, by decide, _, rfl, rfl⟩, fun h => Bool.noConfusion h⟩) (en_ac (⟨yX7_isThrown, RX7, cX7_isThrown, 3, (some .boolean), by decide, ct_X7_isThrown_6 hl, fun _ => ⟨gc_RX7_110v, by decide, _, rfl, rfl⟩, fun h => Bool.noConfusion h⟩) (en_ac (⟨yX7_isThrown, RX7, cX7_isThrown, 3, (some .boolean), by decide, ct_X7_isThrown_7 hl, fun _ => ⟨gc_RX7_110v, by decide, _, rfl, rfl⟩, fun h => Bool.noConfusion h⟩) (en_ac (⟨yX7_isNoPlayer, RX7, cX7_isNoPlayer, 2, (some .boolean), by decide, ct_X7_isNoPlayer_1 hl, fun _ => ⟨gc_RX7_132v, by decide, _, rfl, rfl⟩, fun h => Bool.noConfusion h⟩) (en_ac (⟨yX7_isDone, RX7, cX7_isDone, 2, (some .boolean), by decide, ct_X7_isDone_0 hl, fun _ => ⟨gc_RX7_163v, by decide, _, rfl, rfl⟩, fun h => Bool.noConfusion h⟩) (en_ac (⟨yX7_notDone, RX7, cX7_notDone, 3, (some .int), by decide, ct_X7_notDone_0 hl, fun _ => ⟨gc_RX7_169v, by decide, _, rfl, rfl⟩, fun h => Bool.noConfusion h⟩) en_an))))))), en_LTX7_ok, en_LLX7_ok, en_TTX7_ok hl, ⟨cw256, cw147⟩, en_ACX7_ok⟩ de_X7_pickUp ck_X7_pickUp_2
def tb_X7_player : en_Tb := [
  (31, [(0, .aload_n 0, 1), (1, .aload_n 0, 1), (2, .getfield 89, 3), (5, .bipush 6, 2), (7, .if_icmp .eq 10, 3), (10, .aload_n 0, 1), (11, .getfield 114, 3), (14, .ifCond .eq 7, 3), (17, .iconst 1, 1), (18, .goto 4, 3), (21, .iconst 0, 1), (22, .iconst 1, 1), (23, .invokevirtual 110, 3), (26, .ifCond .eq 5, 3), (29, .iconst 0, 1), (30, .ireturn, 1)]), 
  (48, [(31, .aload_n 0, 1), (32, .dup, 1), (33, .getfield 89, 3), (36, .iconst 1, 1), (37, .iadd, 1), (38, .putfield 89, 3), (41, .aload_n 0, 1), (42, .getfield 89, 3), (45, .iconst 1, 1), (46, .isub, 1), (47, .ireturn, 1)])]
set_option maxRecDepth 40000 in
theorem de_X7_player : en_De tb_X7_player cX7_player := by
  unfold en_De
  decide +kernel
def k_X7_player_0 : en_K := (1, ([.inr (.inl 20), .inl (0, 0, 0, 0)], [(0, 0, 21, 1, 0, 0)]), [([.inr (.inl 20), .inl (0, 5, 0, 0), .inl (1, 6, 0, 0)], [(0, 0, 17, 2, 0, 0)])], [(20, 17), (20, 30)], [20], (0, 0), [])
def u_X7_player_0 : List en_U := []
def x_X7_player_0 : en_Cx := ((en_KT, en_TY0, en_om0), en_FTX7, en_PTX7, [(110, true, 13, 0, 0, k_X7_isThrown_0), (110, true, 13, 0, 0, k_X7_isThrown_1)], en_LTX7, en_LLX7, en_TTX7, en_ACX7)
def m_X7_player_0 : en_Mx := (k_X7_player_0, 1, 1, (0, 0), tb_X7_player, [])
set_option maxRecDepth 100000 in
theorem ck_X7_player_0 : en_all x_X7_player_0 m_X7_player_0 u_X7_player_0 26 = true := by decide +kernel
theorem ct_X7_player_0 {l : Launch} (hl : l.stackTraces = false) {cx cy : Int32} : en_Ctr l vwCl en_TY0 (en_Pc cx cy) en_om0 (en_Of cx cy) en_KT yX7_player (Cond.code yX7_player cX7_player 1 (some .int) :: en_cw) (en_rm 1 (0, 0)) 0 k_X7_player_0 :=
  en_main (X := x_X7_player_0) (M := m_X7_player_0) en_Pc_ok en_f32_ok en_f64_ok hl (by decide +kernel) ⟨en_FTX7_ok, en_PTX7_ok, en_ac (⟨yX7_isThrown, RX7, cX7_isThrown, 3, (some .boolean), by decide, ct_X7_isThrown_0 hl, fun _ => ⟨gc_RX7_110v, by decide, _, rfl, rfl⟩, fun h => Bool.noConfusion h⟩) (en_ac (⟨yX7_isThrown, RX7, cX7_isThrown, 3, (some .boolean), by decide, ct_X7_isThrown_1 hl, fun _ => ⟨gc_RX7_110v, by decide, _, rfl, rfl⟩, fun h => Bool.noConfusion h⟩) en_an), en_LTX7_ok, en_LLX7_ok, en_TTX7_ok hl, ⟨cw256, cw147⟩, en_ACX7_ok⟩ de_X7_player ck_X7_player_0
def k_X7_player_1 : en_K := (1, ([.inr (.inl 20), .inl (1, 1, 0, 0)], [(0, 0, 21, 1, 0, 0)]), [([.inr (.inl 20), .inl (0, 0, 0, 0)], [])], [(20, 30)], [20], (0, 0), [])
def u_X7_player_1 : List en_U := []
def x_X7_player_1 : en_Cx := ((en_KT, en_TY0, en_om0), en_FTX7, en_PTX7, [(110, true, 13, 0, 0, k_X7_isThrown_0)], en_LTX7, en_LLX7, en_TTX7, en_ACX7)
def m_X7_player_1 : en_Mx := (k_X7_player_1, 1, 1, (0, 0), tb_X7_player, [])
set_option maxRecDepth 100000 in
theorem ck_X7_player_1 : en_all x_X7_player_1 m_X7_player_1 u_X7_player_1 18 = true := by decide +kernel
theorem ct_X7_player_1 {l : Launch} (hl : l.stackTraces = false) {cx cy : Int32} : en_Ctr l vwCl en_TY0 (en_Pc cx cy) en_om0 (en_Of cx cy) en_KT yX7_player (Cond.code yX7_player cX7_player 1 (some .int) :: en_cw) (en_rm 1 (0, 0)) 0 k_X7_player_1 :=
  en_main (X := x_X7_player_1) (M := m_X7_player_1) en_Pc_ok en_f32_ok en_f64_ok hl (by decide +kernel) ⟨en_FTX7_ok, en_PTX7_ok, en_ac (⟨yX7_isThrown, RX7, cX7_isThrown, 3, (some .boolean), by decide, ct_X7_isThrown_0 hl, fun _ => ⟨gc_RX7_110v, by decide, _, rfl, rfl⟩, fun h => Bool.noConfusion h⟩) en_an, en_LTX7_ok, en_LLX7_ok, en_TTX7_ok hl, ⟨cw256, cw147⟩, en_ACX7_ok⟩ de_X7_player ck_X7_player_1
def tb_X7_point : en_Tb := [
  (28, [(0, .aload_n 0, 1), (1, .aload_n 0, 1), (2, .iload_n 1, 1), (3, .invokevirtual 132, 3), (6, .iconst 1, 1), (7, .invokevirtual 110, 3), (10, .ifCond .ne 49, 3), (13, .aload_n 0, 1), (14, .aload_n 0, 1), (15, .getfield 135, 3), (18, .ifCond .ne 7, 3), (21, .iconst 1, 1), (22, .goto 4, 3), (25, .iconst 0, 1), (26, .iconst 2, 1), (27, .invokevirtual 110, 3)]), 
  (60, [(30, .ifCond .ne 29, 3), (33, .aload_n 0, 1), (34, .aload_n 0, 1), (35, .aload_n 0, 1), (36, .getfield 23, 3), (39, .iload_n 1, 1), (40, .aaload, 1), (41, .invokevirtual 230, 3), (44, .ifCond .ne 7, 3), (47, .iconst 1, 1), (48, .goto 4, 3), (51, .iconst 0, 1), (52, .iconst 3, 1), (53, .invokevirtual 110, 3), (56, .ifCond .eq 5, 3), (59, .iconst 0, 1)]), 
  (84, [(60, .ireturn, 1), (61, .aload_n 0, 1), (62, .aload_n 0, 1), (63, .getfield 23, 3), (66, .iload_n 1, 1), (67, .aaload, 1), (68, .invokevirtual 233, 3), (71, .istore_n 3, 1), (72, .aload_n 0, 1), (73, .iload_n 3, 1), (74, .ifCond .ge 7, 3), (77, .iconst 1, 1), (78, .goto 4, 3), (81, .iconst 0, 1), (82, .iconst 4, 1), (83, .invokevirtual 110, 3)]), 
  (109, [(86, .ifCond .eq 7, 3), (89, .iconst 0, 1), (90, .goto 18, 3), (93, .iload_n 2, 1), (94, .ifCond .eq 10, 3), (97, .iload_n 3, 1), (98, .bipush 30, 2), (100, .irem, 1), (101, .goto 7, 3), (104, .iload_n 3, 1), (105, .bipush 30, 2), (107, .idiv, 1), (108, .ireturn, 1)])]
set_option maxRecDepth 40000 in
theorem de_X7_point : en_De tb_X7_point cX7_point := by
  unfold en_De
  decide +kernel
def k_X7_point_0 : en_K := (3, ([.inr (.inl 20), .inl ((-2147483648), 2147483647, 0, 0), .inl (0, 1, 0, 0), .inl (0, 0, 0, 0)], [(0, 0, 22, 3, 0, 0)]), [([.inr (.inl 20), .inl ((-2147483648), 2147483647, 0, 0), .inl (0, 1, 0, 0), .inl (0, 0, 0, 0)], [])], [(20, 30)], [20], (0, 0), [])
def u_X7_point_0 : List en_U := []
def x_X7_point_0 : en_Cx := ((en_KT, en_TY0, en_om0), en_FTX7, en_PTX7, [(110, true, 13, 0, 0, k_X7_isThrown_0), (110, true, 13, 0, 0, k_X7_isThrown_1), (110, true, 13, 0, 0, k_X7_isThrown_2), (132, true, 13, 0, 1, k_X7_isNoPlayer_0)], en_LTX7, en_LLX7, en_TTX7, en_ACX7)
def m_X7_point_0 : en_Mx := (k_X7_point_0, 2, 4, (0, 0), tb_X7_point, [])
set_option maxRecDepth 100000 in
theorem ck_X7_point_0 : en_all x_X7_point_0 m_X7_point_0 u_X7_point_0 21 = true := by decide +kernel
theorem ct_X7_point_0 {l : Launch} (hl : l.stackTraces = false) {cx cy : Int32} : en_Ctr l vwCl en_TY0 (en_Pc cx cy) en_om0 (en_Of cx cy) en_KT yX7_point (Cond.code yX7_point cX7_point 4 (some .int) :: en_cw) (en_rm 2 (0, 0)) 0 k_X7_point_0 :=
  en_main (X := x_X7_point_0) (M := m_X7_point_0) en_Pc_ok en_f32_ok en_f64_ok hl (by decide +kernel) ⟨en_FTX7_ok, en_PTX7_ok, en_ac (⟨yX7_isThrown, RX7, cX7_isThrown, 3, (some .boolean), by decide, ct_X7_isThrown_0 hl, fun _ => ⟨gc_RX7_110v, by decide, _, rfl, rfl⟩, fun h => Bool.noConfusion h⟩) (en_ac (⟨yX7_isThrown, RX7, cX7_isThrown, 3, (some .boolean), by decide, ct_X7_isThrown_1 hl, fun _ => ⟨gc_RX7_110v, by decide, _, rfl, rfl⟩, fun h => Bool.noConfusion h⟩) (en_ac (⟨yX7_isThrown, RX7, cX7_isThrown, 3, (some .boolean), by decide, ct_X7_isThrown_2 hl, fun _ => ⟨gc_RX7_110v, by decide, _, rfl, rfl⟩, fun h => Bool.noConfusion h⟩) (en_ac (⟨yX7_isNoPlayer, RX7, cX7_isNoPlayer, 2, (some .boolean), by decide, ct_X7_isNoPlayer_0 hl, fun _ => ⟨gc_RX7_132v, by decide, _, rfl, rfl⟩, fun h => Bool.noConfusion h⟩) en_an))), en_LTX7_ok, en_LLX7_ok, en_TTX7_ok hl, ⟨cw256, cw147⟩, en_ACX7_ok⟩ de_X7_point ck_X7_point_0
def k_X7_point_1 : en_K := (3, ([.inr (.inl 20), .inl ((-2147483648), 2147483647, 0, 0), .inl (0, 1, 0, 0), .inl (1, 1, 0, 0), .inl (0, 8, 0, 0)], [(0, 0, 22, 3, 0, 0), (0, 0, 25, 4, 0, 0), (5, 0, 0, 0, 0, 0)]), [([.inr (.inl 20), .inl ((-2147483648), 2147483647, 0, 0), .inl (0, 1, 0, 0), .inl (0, 29, 0, 0)], [(5, 0, 0, 0, 0, 0)])], [(20, 30)], [20, 21, 22, 23, 24, 26, 27], (0, 0), [])
def u_X7_point_1 : List en_U := []
def x_X7_point_1 : en_Cx := ((en_KT, en_TY0, en_om0), en_FTX7, en_PTX7, [(110, true, 13, 0, 0, k_X7_isThrown_16), (110, true, 13, 0, 0, k_X7_isThrown_17), (110, true, 13, 0, 0, k_X7_isThrown_3), (110, true, 13, 0, 0, k_X7_isThrown_4), (110, true, 13, 0, 0, k_X7_isThrown_5), (110, true, 13, 0, 0, k_X7_isThrown_6), (110, true, 13, 0, 0, k_X7_isThrown_7), (132, true, 13, 0, 1, k_X7_isNoPlayer_1), (230, true, 13, 0, 1, k_X7_isOnGround_0), (233, true, 13, 0, 2, k_X7_pointOf_0)], en_LTX7, en_LLX7, en_TTX7, en_ACX7)
def m_X7_point_1 : en_Mx := (k_X7_point_1, 3, 4, (0, 0), tb_X7_point, [])
set_option maxRecDepth 100000 in
theorem ck_X7_point_1 : en_all x_X7_point_1 m_X7_point_1 u_X7_point_1 51 = true := by decide +kernel
theorem ct_X7_point_1 {l : Launch} (hl : l.stackTraces = false) {cx cy : Int32} : en_Ctr l vwCl en_TY0 (en_Pc cx cy) en_om0 (en_Of cx cy) en_KT yX7_point (Cond.code yX7_point cX7_point 4 (some .int) :: en_cw) (en_rm 3 (0, 0)) 0 k_X7_point_1 :=
  en_main (X := x_X7_point_1) (M := m_X7_point_1) en_Pc_ok en_f32_ok en_f64_ok hl (by decide +kernel) ⟨en_FTX7_ok, en_PTX7_ok, en_ac (⟨yX7_isThrown, RX7, cX7_isThrown, 3, (some .boolean), by decide, ct_X7_isThrown_16 hl, fun _ => ⟨gc_RX7_110v, by decide, _, rfl, rfl⟩, fun h => Bool.noConfusion h⟩) (en_ac (⟨yX7_isThrown, RX7, cX7_isThrown, 3, (some .boolean), by decide, ct_X7_isThrown_17 hl, fun _ => ⟨gc_RX7_110v, by decide, _, rfl, rfl⟩, fun h => Bool.noConfusion h⟩) (en_ac (⟨yX7_isThrown, RX7, cX7_isThrown, 3, (some .boolean), by decide, ct_X7_isThrown_3 hl, fun _ => ⟨gc_RX7_110v, by decide, _, rfl, rfl⟩, fun h => Bool.noConfusion h⟩) (en_ac (⟨yX7_isThrown, RX7, cX7_isThrown, 3, (some .boolean), by decide, ct_X7_isThrown_4 hl, fun _ => ⟨gc_RX7_110v, by decide, _, rfl, rfl⟩, fun h => Bool.noConfusion h⟩) (en_ac (⟨yX7_isThrown, RX7, cX7_isThrown, 3, (some .boolean), by decide, ct_X7_isThrown_5 hl, fun _ => ⟨gc_RX7_110v, by decide, _, rfl, rfl⟩, fun h => Bool.noConfusion h⟩) (en_ac (⟨yX7_isThrown, RX7, cX7_isThrown, 3, (some .boolean), by decide, ct_X7_isThrown_6 hl, fun _ => ⟨gc_RX7_110v, by decide, _, rfl, rfl⟩, fun h => Bool.noConfusion h⟩) (en_ac (⟨yX7_isThrown, RX7, cX7_isThrown, 3, (some .boolean), by decide, ct_X7_isThrown_7 hl, fun _ => ⟨gc_RX7_110v, by decide, _, rfl, rfl⟩, fun h => Bool.noConfusion h⟩) (en_ac (⟨yX7_isNoPlayer, RX7, cX7_isNoPlayer, 2, (some .boolean), by decide, ct_X7_isNoPlayer_1 hl, fun _ => ⟨gc_RX7_132v, by decide, _, rfl, rfl⟩, fun h => Bool.noConfusion h⟩) (en_ac (⟨yX7_isOnGround, RX7, cX7_isOnGround, 2, (some .boolean), by decide, ct_X7_isOnGround_0 hl, fun _ => ⟨gc_RX7_230v, by decide, _, rfl, rfl⟩, fun h => Bool.noConfusion h⟩) (en_ac (⟨yX7_pointOf, RX7, cX7_pointOf, 9, (some .int), by decide, ct_X7_pointOf_0 hl, fun _ => ⟨gc_RX7_233v, by decide, _, rfl, rfl⟩, fun h => Bool.noConfusion h⟩) en_an))))))))), en_LTX7_ok, en_LLX7_ok, en_TTX7_ok hl, ⟨cw256, cw147⟩, en_ACX7_ok⟩ de_X7_point ck_X7_point_1
def k_X7_isIn_44 : en_K := (3, ([.inl ((-2147483648), 2147483647, 0, 0), .inl (100, 100, 0, 0), .inl (800, 800, 0, 0)], []), [([.inl ((-2147483648), 2147483647, 0, 0), .inl (100, 100, 0, 0), .inl (800, 800, 0, 0), .inl (0, 0, 0, 0)], []), ([.inl (100, 800, 0, 0), .inl (100, 100, 0, 0), .inl (800, 800, 0, 0), .inl (1, 1, 0, 0)], [])], [], [], (0, 0), [])
def u_X7_isIn_44 : List en_U := []
def x_X7_isIn_44 : en_Cx := ((en_KT, en_TY0, en_om0), en_FTX7, en_PTX7, [], en_LTX7, en_LLX7, en_TTX7, en_ACX7)
def m_X7_isIn_44 : en_Mx := (k_X7_isIn_44, 0, 3, (0, 2), tb_X7_isIn, [])
set_option maxRecDepth 100000 in
theorem ck_X7_isIn_44 : en_all x_X7_isIn_44 m_X7_isIn_44 u_X7_isIn_44 12 = true := by decide +kernel
theorem ct_X7_isIn_44 {l : Launch} (hl : l.stackTraces = false) {cx cy : Int32} : en_Ctr l vwCl en_TY0 (en_Pc cx cy) en_om0 (en_Of cx cy) en_KT yX7_isIn (Cond.code yX7_isIn cX7_isIn 3 (some .boolean) :: en_cw) (en_rm 0 (0, 0)) 0 k_X7_isIn_44 :=
  en_main (X := x_X7_isIn_44) (M := m_X7_isIn_44) en_Pc_ok en_f32_ok en_f64_ok hl (by decide +kernel) ⟨en_FTX7_ok, en_PTX7_ok, en_an, en_LTX7_ok, en_LLX7_ok, en_TTX7_ok hl, ⟨cw256, cw147⟩, en_ACX7_ok⟩ de_X7_isIn ck_X7_isIn_44
def k_X7_isIn_45 : en_K := (3, ([.inl ((-2147483648), 2147483647, 0, 0), .inl (55, 55, 0, 0), .inl (155, 155, 0, 0)], []), [([.inl ((-2147483648), 2147483647, 0, 0), .inl (55, 55, 0, 0), .inl (155, 155, 0, 0), .inl (0, 0, 0, 0)], []), ([.inl (55, 155, 0, 0), .inl (55, 55, 0, 0), .inl (155, 155, 0, 0), .inl (1, 1, 0, 0)], [])], [], [], (0, 0), [])
def u_X7_isIn_45 : List en_U := []
def x_X7_isIn_45 : en_Cx := ((en_KT, en_TY0, en_om0), en_FTX7, en_PTX7, [], en_LTX7, en_LLX7, en_TTX7, en_ACX7)
def m_X7_isIn_45 : en_Mx := (k_X7_isIn_45, 0, 3, (0, 2), tb_X7_isIn, [])
set_option maxRecDepth 100000 in
theorem ck_X7_isIn_45 : en_all x_X7_isIn_45 m_X7_isIn_45 u_X7_isIn_45 12 = true := by decide +kernel
theorem ct_X7_isIn_45 {l : Launch} (hl : l.stackTraces = false) {cx cy : Int32} : en_Ctr l vwCl en_TY0 (en_Pc cx cy) en_om0 (en_Of cx cy) en_KT yX7_isIn (Cond.code yX7_isIn cX7_isIn 3 (some .boolean) :: en_cw) (en_rm 0 (0, 0)) 0 k_X7_isIn_45 :=
  en_main (X := x_X7_isIn_45) (M := m_X7_isIn_45) en_Pc_ok en_f32_ok en_f64_ok hl (by decide +kernel) ⟨en_FTX7_ok, en_PTX7_ok, en_an, en_LTX7_ok, en_LLX7_ok, en_TTX7_ok hl, ⟨cw256, cw147⟩, en_ACX7_ok⟩ de_X7_isIn ck_X7_isIn_45
def k_X7_isIn_46 : en_K := (3, ([.inl ((-2147483648), 2147483647, 0, 0), .inl (100, 100, 0, 0), .inl (800, 800, 0, 0)], [(5, 0, 0, 0, 0, 0)]), [([.inl ((-2147483648), 2147483647, 0, 0), .inl (100, 100, 0, 0), .inl (800, 800, 0, 0), .inl (0, 0, 0, 0)], [(5, 0, 0, 0, 0, 0)]), ([.inl (100, 800, 0, 0), .inl (100, 100, 0, 0), .inl (800, 800, 0, 0), .inl (1, 1, 0, 0)], [(5, 0, 0, 0, 0, 0)])], [], [], (0, 0), [])
def u_X7_isIn_46 : List en_U := []
def x_X7_isIn_46 : en_Cx := ((en_KT, en_TY0, en_om0), en_FTX7, en_PTX7, [], en_LTX7, en_LLX7, en_TTX7, en_ACX7)
def m_X7_isIn_46 : en_Mx := (k_X7_isIn_46, 0, 3, (0, 2), tb_X7_isIn, [])
set_option maxRecDepth 100000 in
theorem ck_X7_isIn_46 : en_all x_X7_isIn_46 m_X7_isIn_46 u_X7_isIn_46 12 = true := by decide +kernel
theorem ct_X7_isIn_46 {l : Launch} (hl : l.stackTraces = false) {cx cy : Int32} : en_Ctr l vwCl en_TY0 (en_Pc cx cy) en_om0 (en_Of cx cy) en_KT yX7_isIn (Cond.code yX7_isIn cX7_isIn 3 (some .boolean) :: en_cw) (en_rm 0 (0, 0)) 0 k_X7_isIn_46 :=
  en_main (X := x_X7_isIn_46) (M := m_X7_isIn_46) en_Pc_ok en_f32_ok en_f64_ok hl (by decide +kernel) ⟨en_FTX7_ok, en_PTX7_ok, en_an, en_LTX7_ok, en_LLX7_ok, en_TTX7_ok hl, ⟨cw256, cw147⟩, en_ACX7_ok⟩ de_X7_isIn ck_X7_isIn_46
def k_X7_isIn_47 : en_K := (3, ([.inl ((-2147483648), 2147483647, 0, 0), .inl (55, 55, 0, 0), .inl (155, 155, 0, 0)], [(5, 0, 0, 0, 0, 0)]), [([.inl ((-2147483648), 2147483647, 0, 0), .inl (55, 55, 0, 0), .inl (155, 155, 0, 0), .inl (0, 0, 0, 0)], [(5, 0, 0, 0, 0, 0)]), ([.inl (55, 155, 0, 0), .inl (55, 55, 0, 0), .inl (155, 155, 0, 0), .inl (1, 1, 0, 0)], [(5, 0, 0, 0, 0, 0)])], [], [], (0, 0), [])
def u_X7_isIn_47 : List en_U := []
def x_X7_isIn_47 : en_Cx := ((en_KT, en_TY0, en_om0), en_FTX7, en_PTX7, [], en_LTX7, en_LLX7, en_TTX7, en_ACX7)
def m_X7_isIn_47 : en_Mx := (k_X7_isIn_47, 0, 3, (0, 2), tb_X7_isIn, [])
set_option maxRecDepth 100000 in
theorem ck_X7_isIn_47 : en_all x_X7_isIn_47 m_X7_isIn_47 u_X7_isIn_47 12 = true := by decide +kernel
theorem ct_X7_isIn_47 {l : Launch} (hl : l.stackTraces = false) {cx cy : Int32} : en_Ctr l vwCl en_TY0 (en_Pc cx cy) en_om0 (en_Of cx cy) en_KT yX7_isIn (Cond.code yX7_isIn cX7_isIn 3 (some .boolean) :: en_cw) (en_rm 0 (0, 0)) 0 k_X7_isIn_47 :=
  en_main (X := x_X7_isIn_47) (M := m_X7_isIn_47) en_Pc_ok en_f32_ok en_f64_ok hl (by decide +kernel) ⟨en_FTX7_ok, en_PTX7_ok, en_an, en_LTX7_ok, en_LLX7_ok, en_TTX7_ok hl, ⟨cw256, cw147⟩, en_ACX7_ok⟩ de_X7_isIn ck_X7_isIn_47
def tb_X7_provisional : en_Tb := [
  (30, [(0, .aload_n 0, 1), (1, .aload_n 0, 1), (2, .iload_n 1, 1), (3, .invokevirtual 132, 3), (6, .ifCond .ne 11, 3), (9, .iload_n 2, 1), (10, .iload_n 3, 1), (11, .invokestatic 106, 3), (14, .ifCond .ne 7, 3), (17, .iconst 1, 1), (18, .goto 4, 3), (21, .iconst 0, 1), (22, .iconst 1, 1), (23, .invokevirtual 110, 3), (26, .ifCond .ne 30, 3), (29, .aload_n 0, 1)]), 
  (61, [(30, .aload_n 0, 1), (31, .getfield 135, 3), (34, .ifCond .eq 10, 3), (37, .aload_n 0, 1), (38, .getfield 145, 3), (41, .ifCond .eq 7, 3), (44, .iconst 1, 1), (45, .goto 4, 3), (48, .iconst 0, 1), (49, .iconst 2, 1), (50, .invokevirtual 110, 3), (53, .ifCond .eq 6, 3), (56, .bipush 32, 2), (58, .ireturn, 1), (59, .aload_n 0, 1), (60, .getfield 23, 3)]), 
  (90, [(63, .iload_n 1, 1), (64, .aaload, 1), (65, .astore 4, 2), (67, .aload 4, 2), (69, .iconst 0, 1), (70, .iaload, 1), (71, .bipush 115, 2), (73, .if_icmp .ne 15, 3), (76, .aload 4, 2), (78, .bipush 10, 2), (80, .iaload, 1), (81, .ifCond .ne 7, 3), (84, .iconst 1, 1), (85, .goto 4, 3), (88, .iconst 0, 1), (89, .istore 5, 2)]), 
  (116, [(91, .iload_n 2, 1), (92, .iload_n 3, 1), (93, .aload 4, 2), (95, .iconst 4, 1), (96, .iaload, 1), (97, .aload 4, 2), (99, .iconst 5, 1), (100, .iaload, 1), (101, .invokestatic 102, 3), (104, .istore 6, 2), (106, .iload 5, 2), (108, .ifCond .eq 32, 3), (111, .aload_n 0, 1), (112, .aload 4, 2), (114, .iconst 4, 1), (115, .iaload, 1)]), 
  (144, [(116, .aload 4, 2), (118, .iconst 5, 1), (119, .iaload, 1), (120, .aload 4, 2), (122, .bipush 6, 2), (124, .iaload, 1), (125, .iconst 1, 1), (126, .if_icmp .ne 7, 3), (129, .iconst 1, 1), (130, .goto 4, 3), (133, .iconst 0, 1), (134, .invokevirtual 183, 3), (137, .goto 4, 3), (140, .iconst 0, 1), (141, .istore 7, 2), (143, .aload_n 0, 1)]), 
  (177, [(144, .iload 5, 2), (146, .ifCond .eq 18, 3), (149, .iload 6, 2), (151, .ifCond .eq 13, 3), (154, .iload 6, 2), (156, .iload 7, 2), (158, .iload 7, 2), (160, .imul, 1), (161, .if_icmp .le 7, 3), (164, .iconst 1, 1), (165, .goto 4, 3), (168, .iconst 0, 1), (169, .iconst 3, 1), (170, .invokevirtual 110, 3), (173, .ifCond .eq 6, 3), (176, .bipush 32, 2)]), 
  (202, [(178, .ireturn, 1), (179, .aload_n 0, 1), (180, .aload 4, 2), (182, .iconst 4, 1), (183, .iaload, 1), (184, .aload 4, 2), (186, .iconst 5, 1), (187, .iaload, 1), (188, .aload 4, 2), (190, .bipush 6, 2), (192, .iaload, 1), (193, .iconst 1, 1), (194, .if_icmp .ne 7, 3), (197, .iconst 1, 1), (198, .goto 4, 3), (201, .iconst 0, 1)]), 
  (230, [(202, .iload 6, 2), (204, .invokevirtual 194, 3), (207, .istore 8, 2), (209, .aload_n 0, 1), (210, .iconst (-1), 1), (211, .putfield 160, 3), (214, .aload 4, 2), (216, .bipush 11, 2), (218, .iload_n 2, 1), (219, .aload_n 0, 1), (220, .iload 8, 2), (222, .invokevirtual 198, 3), (225, .iadd, 1), (226, .iastore, 1), (227, .aload 4, 2), (229, .bipush 12, 2)]), 
  (257, [(231, .iload_n 3, 1), (232, .aload_n 0, 1), (233, .iload 8, 2), (235, .invokevirtual 198, 3), (238, .iadd, 1), (239, .iastore, 1), (240, .aload_n 0, 1), (241, .aload 4, 2), (243, .bipush 11, 2), (245, .iaload, 1), (246, .aload 4, 2), (248, .bipush 12, 2), (250, .iaload, 1), (251, .invokevirtual 201, 3), (254, .istore 9, 2), (256, .aload 4, 2)]), 
  (282, [(258, .bipush 10, 2), (260, .iload 9, 2), (262, .bipush 115, 2), (264, .if_icmp .ne 8, 3), (267, .bipush 103, 2), (269, .goto 5, 3), (272, .iload 9, 2), (274, .iastore, 1), (275, .aload 4, 2), (277, .bipush 10, 2), (279, .iaload, 1), (280, .i2c, 1), (281, .ireturn, 1)])]
set_option maxRecDepth 40000 in
theorem de_X7_provisional : en_De tb_X7_provisional cX7_provisional := by
  unfold en_De
  decide +kernel
def k_X7_provisional_0 : en_K := (4, ([.inr (.inl 20), .inl ((-2147483648), 2147483647, 0, 0), .inl ((-2147483648), 2147483647, 0, 0), .inl ((-2147483648), 2147483647, 0, 0), .inl (0, 0, 0, 0)], [(0, 0, 22, 4, 0, 0)]), [([.inr (.inl 20), .inl ((-2147483648), 2147483647, 0, 0), .inl ((-2147483648), 2147483647, 0, 0), .inl ((-2147483648), 2147483647, 0, 0), .inl (32, 32, 0, 0)], [])], [(20, 30)], [20], (0, 0), [])
def u_X7_provisional_0 : List en_U := []
def x_X7_provisional_0 : en_Cx := ((en_KT, en_TY0, en_om0), en_FTX7, en_PTX7, [(106, false, 0, 0, 1, k_X7_isCell_0), (110, true, 13, 0, 0, k_X7_isThrown_0), (110, true, 13, 0, 0, k_X7_isThrown_1), (110, true, 13, 0, 0, k_X7_isThrown_2), (132, true, 13, 0, 1, k_X7_isNoPlayer_0)], en_LTX7, en_LLX7, en_TTX7, en_ACX7)
def m_X7_provisional_0 : en_Mx := (k_X7_provisional_0, 2, 10, (0, 1), tb_X7_provisional, [])
set_option maxRecDepth 100000 in
theorem ck_X7_provisional_0 : en_all x_X7_provisional_0 m_X7_provisional_0 u_X7_provisional_0 27 = true := by decide +kernel
theorem ct_X7_provisional_0 {l : Launch} (hl : l.stackTraces = false) {cx cy : Int32} : en_Ctr l vwCl en_TY0 (en_Pc cx cy) en_om0 (en_Of cx cy) en_KT yX7_provisional (Cond.code yX7_provisional cX7_provisional 10 (some .char) :: en_cw) (en_rm 2 (0, 0)) 0 k_X7_provisional_0 :=
  en_main (X := x_X7_provisional_0) (M := m_X7_provisional_0) en_Pc_ok en_f32_ok en_f64_ok hl (by decide +kernel) ⟨en_FTX7_ok, en_PTX7_ok, en_ac (⟨yX7_isCell, RX7, cX7_isCell, 2, (some .boolean), by decide, ct_X7_isCell_0 hl, fun h => Bool.noConfusion h, fun _ => gc_RX7_106s⟩) (en_ac (⟨yX7_isThrown, RX7, cX7_isThrown, 3, (some .boolean), by decide, ct_X7_isThrown_0 hl, fun _ => ⟨gc_RX7_110v, by decide, _, rfl, rfl⟩, fun h => Bool.noConfusion h⟩) (en_ac (⟨yX7_isThrown, RX7, cX7_isThrown, 3, (some .boolean), by decide, ct_X7_isThrown_1 hl, fun _ => ⟨gc_RX7_110v, by decide, _, rfl, rfl⟩, fun h => Bool.noConfusion h⟩) (en_ac (⟨yX7_isThrown, RX7, cX7_isThrown, 3, (some .boolean), by decide, ct_X7_isThrown_2 hl, fun _ => ⟨gc_RX7_110v, by decide, _, rfl, rfl⟩, fun h => Bool.noConfusion h⟩) (en_ac (⟨yX7_isNoPlayer, RX7, cX7_isNoPlayer, 2, (some .boolean), by decide, ct_X7_isNoPlayer_0 hl, fun _ => ⟨gc_RX7_132v, by decide, _, rfl, rfl⟩, fun h => Bool.noConfusion h⟩) en_an)))), en_LTX7_ok, en_LLX7_ok, en_TTX7_ok hl, ⟨cw256, cw147⟩, en_ACX7_ok⟩ de_X7_provisional ck_X7_provisional_0
def k_X7_spread_2 : en_K := (5, ([.inr (.inl 20), .inl (0, 29, 0, 0), .inl (0, 19, 0, 0), .inl (1, 1, 0, 0), .inl ((-2147483648), 144, 0, 0), .inl (0, 8, 0, 0)], [(0, 0, 25, 5, 0, 0), (5, 0, 0, 0, 0, 0)]), [([.inr (.inl 20), .inl (0, 29, 0, 0), .inl (0, 19, 0, 0), .inl (1, 1, 0, 0), .inl ((-2147483648), 144, 0, 0), .inl (1, 1, 0, 0)], [(5, 0, 0, 0, 0, 0), (6, 3, 0, 0, 0, 0)])], [], [20, 23, 24], (0, 0), [])
def u_X7_spread_2 : List en_U := []
def x_X7_spread_2 : en_Cx := ((en_KT, en_TY0, en_om0), en_FTX7, en_PTX7, [(175, true, 13, 0, 0, k_X7_kind_0)], en_LTX7, en_LLX7, en_TTX7, en_ACX7)
def m_X7_spread_2 : en_Mx := (k_X7_spread_2, 1, 7, (0, 0), tb_X7_spread, [])
set_option maxRecDepth 100000 in
theorem ck_X7_spread_2 : en_all x_X7_spread_2 m_X7_spread_2 u_X7_spread_2 25 = true := by decide +kernel
theorem ct_X7_spread_2 {l : Launch} (hl : l.stackTraces = false) {cx cy : Int32} : en_Ctr l vwCl en_TY0 (en_Pc cx cy) en_om0 (en_Of cx cy) en_KT yX7_spread (Cond.code yX7_spread cX7_spread 7 (some .int) :: en_cw) (en_rm 1 (0, 0)) 0 k_X7_spread_2 :=
  en_main (X := x_X7_spread_2) (M := m_X7_spread_2) en_Pc_ok en_f32_ok en_f64_ok hl (by decide +kernel) ⟨en_FTX7_ok, en_PTX7_ok, en_ac (⟨yX7_kind, RX7, cX7_kind, 3, (some .char), by decide, ct_X7_kind_0 hl, fun _ => ⟨gc_RX7_175v, by decide, _, rfl, rfl⟩, fun h => Bool.noConfusion h⟩) en_an, en_LTX7_ok, en_LLX7_ok, en_TTX7_ok hl, ⟨cw256, cw147⟩, en_ACX7_ok⟩ de_X7_spread ck_X7_spread_2
def tb_X7_drawn : en_Tb := [
  (23, [(0, .aload_n 0, 1), (1, .aload_n 0, 1), (2, .getfield 67, 3), (5, .ldc 179, 2), (7, .imul, 1), (8, .sipush 12345, 3), (11, .iadd, 1), (12, .putfield 67, 3), (15, .aload_n 0, 1), (16, .getfield 67, 3), (19, .bipush 16, 2), (21, .iushr, 1), (22, .ireturn, 1)])]
set_option maxRecDepth 40000 in
theorem de_X7_drawn : en_De tb_X7_drawn cX7_drawn := by
  unfold en_De
  decide +kernel
def k_X7_drawn_0 : en_K := (1, ([.inr (.inl 20)], [(5, 0, 0, 0, 0, 0)]), [([.inr (.inl 20), .inl (0, 65535, 0, 0)], [(5, 0, 0, 0, 0, 0)])], [(20, 18)], [20], (0, 0), [])
def u_X7_drawn_0 : List en_U := []
def x_X7_drawn_0 : en_Cx := ((en_KT, en_TY0, en_om0), en_FTX7, en_PTX7, [], en_LTX7, en_LLX7, en_TTX7, en_ACX7)
def m_X7_drawn_0 : en_Mx := (k_X7_drawn_0, 0, 1, (0, 0), tb_X7_drawn, [])
set_option maxRecDepth 100000 in
theorem ck_X7_drawn_0 : en_all x_X7_drawn_0 m_X7_drawn_0 u_X7_drawn_0 16 = true := by decide +kernel
theorem ct_X7_drawn_0 {l : Launch} (hl : l.stackTraces = false) {cx cy : Int32} : en_Ctr l vwCl en_TY0 (en_Pc cx cy) en_om0 (en_Of cx cy) en_KT yX7_drawn (Cond.code yX7_drawn cX7_drawn 1 (some .int) :: en_cw) (en_rm 0 (0, 0)) 0 k_X7_drawn_0 :=
  en_main (X := x_X7_drawn_0) (M := m_X7_drawn_0) en_Pc_ok en_f32_ok en_f64_ok hl (by decide +kernel) ⟨en_FTX7_ok, en_PTX7_ok, en_an, en_LTX7_ok, en_LLX7_ok, en_TTX7_ok hl, ⟨cw256, cw147⟩, en_ACX7_ok⟩ de_X7_drawn ck_X7_drawn_0
def tb_X7_drawn_ : en_Tb := [
  (21, [(0, .iload_n 1, 1), (1, .ifCond .ne 7, 3), (4, .iconst 0, 1), (5, .goto 15, 3), (8, .aload_n 0, 1), (9, .invokevirtual 180, 3), (12, .iconst 2, 1), (13, .iload_n 1, 1), (14, .imul, 1), (15, .iconst 1, 1), (16, .iadd, 1), (17, .irem, 1), (18, .iload_n 1, 1), (19, .isub, 1), (20, .ireturn, 1)])]
set_option maxRecDepth 40000 in
theorem de_X7_drawn_ : en_De tb_X7_drawn_ cX7_drawn_ := by
  unfold en_De
  decide +kernel
def k_X7_drawn__0 : en_K := (2, ([.inr (.inl 20), .inl (1, 1, 0, 0)], [(5, 0, 0, 0, 0, 0)]), [([.inr (.inl 20), .inl (1, 1, 0, 0), .inl ((-1), 1, 0, 0)], [(5, 0, 0, 0, 0, 0), (6, 1, 0, 0, 0, 0)])], [(20, 18)], [20], (0, 0), [])
def u_X7_drawn__0 : List en_U := []
def x_X7_drawn__0 : en_Cx := ((en_KT, en_TY0, en_om0), en_FTX7, en_PTX7, [(180, true, 13, 0, 0, k_X7_drawn_0)], en_LTX7, en_LLX7, en_TTX7, en_ACX7)
def m_X7_drawn__0 : en_Mx := (k_X7_drawn__0, 1, 2, (0, 0), tb_X7_drawn_, [])
set_option maxRecDepth 100000 in
theorem ck_X7_drawn__0 : en_all x_X7_drawn__0 m_X7_drawn__0 u_X7_drawn__0 16 = true := by decide +kernel
theorem ct_X7_drawn__0 {l : Launch} (hl : l.stackTraces = false) {cx cy : Int32} : en_Ctr l vwCl en_TY0 (en_Pc cx cy) en_om0 (en_Of cx cy) en_KT yX7_drawn_ (Cond.code yX7_drawn_ cX7_drawn_ 2 (some .int) :: en_cw) (en_rm 1 (0, 0)) 0 k_X7_drawn__0 :=
  en_main (X := x_X7_drawn__0) (M := m_X7_drawn__0) en_Pc_ok en_f32_ok en_f64_ok hl (by decide +kernel) ⟨en_FTX7_ok, en_PTX7_ok, en_ac (⟨yX7_drawn, RX7, cX7_drawn, 1, (some .int), by decide, ct_X7_drawn_0 hl, fun _ => ⟨gc_RX7_180v, by decide, _, rfl, rfl⟩, fun h => Bool.noConfusion h⟩) en_an, en_LTX7_ok, en_LLX7_ok, en_TTX7_ok hl, ⟨cw256, cw147⟩, en_ACX7_ok⟩ de_X7_drawn_ ck_X7_drawn__0
def k_X7_isIn_48 : en_K := (3, ([.inl ((-1), 30, 0, 0), .inl (0, 0, 0, 0), .inl (29, 29, 0, 0)], [(5, 0, 0, 0, 0, 0)]), [([.inl (30, 30, 0, 0), .inl (0, 0, 0, 0), .inl (29, 29, 0, 0), .inl (0, 0, 0, 0)], [(5, 0, 0, 0, 0, 0)]), ([.inl ((-1), (-1), 0, 0), .inl (0, 0, 0, 0), .inl (29, 29, 0, 0), .inl (0, 0, 0, 0)], [(5, 0, 0, 0, 0, 0)]), ([.inl (0, 29, 0, 0), .inl (0, 0, 0, 0), .inl (29, 29, 0, 0), .inl (1, 1, 0, 0)], [(5, 0, 0, 0, 0, 0)])], [], [], (0, 0), [])
def u_X7_isIn_48 : List en_U := []
def x_X7_isIn_48 : en_Cx := ((en_KT, en_TY0, en_om0), en_FTX7, en_PTX7, [], en_LTX7, en_LLX7, en_TTX7, en_ACX7)
def m_X7_isIn_48 : en_Mx := (k_X7_isIn_48, 0, 3, (0, 2), tb_X7_isIn, [])
set_option maxRecDepth 100000 in
theorem ck_X7_isIn_48 : en_all x_X7_isIn_48 m_X7_isIn_48 u_X7_isIn_48 12 = true := by decide +kernel
theorem ct_X7_isIn_48 {l : Launch} (hl : l.stackTraces = false) {cx cy : Int32} : en_Ctr l vwCl en_TY0 (en_Pc cx cy) en_om0 (en_Of cx cy) en_KT yX7_isIn (Cond.code yX7_isIn cX7_isIn 3 (some .boolean) :: en_cw) (en_rm 0 (0, 0)) 0 k_X7_isIn_48 :=
  en_main (X := x_X7_isIn_48) (M := m_X7_isIn_48) en_Pc_ok en_f32_ok en_f64_ok hl (by decide +kernel) ⟨en_FTX7_ok, en_PTX7_ok, en_an, en_LTX7_ok, en_LLX7_ok, en_TTX7_ok hl, ⟨cw256, cw147⟩, en_ACX7_ok⟩ de_X7_isIn ck_X7_isIn_48
