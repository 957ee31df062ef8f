def tb_X7_conditions : en_Tb := [
  (26, [(0, .aload_n 0, 1), (1, .iload_n 1, 1), (2, .iconst (-1), 1), (3, .iconst 3, 1), (4, .invokestatic 82, 3), (7, .ifCond .ne 7, 3), (10, .iconst 1, 1), (11, .goto 4, 3), (14, .iconst 0, 1), (15, .iconst 1, 1), (16, .invokevirtual 110, 3), (19, .ifCond .eq 5, 3), (22, .iconst 0, 1), (23, .ireturn, 1), (24, .aload_n 0, 1), (25, .getfield 278, 3)]), 
  (36, [(28, .istore_n 2, 1), (29, .aload_n 0, 1), (30, .iload_n 1, 1), (31, .putfield 278, 3), (34, .iload_n 2, 1), (35, .ireturn, 1)])]
set_option maxRecDepth 40000 in
theorem de_X7_conditions : en_De tb_X7_conditions cX7_conditions := by
  unfold en_De
  decide +kernel
def k_X7_conditions_0 : en_K := (2, ([.inr (.inl 20), .inl ((-2147483648), 2147483647, 0, 0)], []), [([.inr (.inl 20), .inl ((-2147483648), 2147483647, 0, 0), .inl ((-2147483648), 2147483647, 0, 0)], [])], [(20, 29), (20, 30)], [20], (0, 0), [])
def u_X7_conditions_0 : List en_U := []
def x_X7_conditions_0 : en_Cx := ((en_KT, en_TY0, en_om0), en_FTX7, en_PTX7, [(82, false, 0, 0, 0, k_X7_isIn_30), (110, true, 13, 0, 0, k_X7_isThrown_0), (110, true, 13, 0, 0, k_X7_isThrown_1)], en_LTX7, en_LLX7, en_TTX7, en_ACX7)
def m_X7_conditions_0 : en_Mx := (k_X7_conditions_0, 1, 3, (0, 0), tb_X7_conditions, [])
set_option maxRecDepth 100000 in
theorem ck_X7_conditions_0 : en_all x_X7_conditions_0 m_X7_conditions_0 u_X7_conditions_0 21 = true := by decide +kernel
theorem ct_X7_conditions_0 {l : Launch} (hl : l.stackTraces = false) {cx cy : Int32} : en_Ctr l vwCl en_TY0 (en_Pc cx cy) en_om0 (en_Of cx cy) en_KT yX7_conditions (Cond.code yX7_conditions cX7_conditions 3 (some .int) :: en_cw) (en_rm 1 (0, 0)) 0 k_X7_conditions_0 :=
  en_main (X := x_X7_conditions_0) (M := m_X7_conditions_0) en_Pc_ok en_f32_ok en_f64_ok hl (by decide +kernel) ⟨en_FTX7_ok, en_PTX7_ok, en_ac (⟨yX7_isIn, RX7, cX7_isIn, 3, (some .boolean), by decide, ct_X7_isIn_30 hl, fun h => Bool.noConfusion h, fun _ => gc_RX7_82s⟩) (en_ac (⟨yX7_isThrown, RX7, cX7_isThrown, 3, (some .boolean), by decide, ct_X7_isThrown_0 hl, fun _ => ⟨gc_RX7_110v, by decide, _, rfl, rfl⟩, fun h => Bool.noConfusion h⟩) (en_ac (⟨yX7_isThrown, RX7, cX7_isThrown, 3, (some .boolean), by decide, ct_X7_isThrown_1 hl, fun _ => ⟨gc_RX7_110v, by decide, _, rfl, rfl⟩, fun h => Bool.noConfusion h⟩) en_an)), en_LTX7_ok, en_LLX7_ok, en_TTX7_ok hl, ⟨cw256, cw147⟩, en_ACX7_ok⟩ de_X7_conditions ck_X7_conditions_0
def k_X7_isIn_31 : en_K := (3, ([.inl ((-2147483648), 2147483647, 0, 0), .inl ((-1), (-1), 0, 0), .inl (3, 3, 0, 0)], [(5, 0, 0, 0, 0, 0)]), [([.inl ((-2147483648), 2147483647, 0, 0), .inl ((-1), (-1), 0, 0), .inl (3, 3, 0, 0), .inl (0, 0, 0, 0)], [(5, 0, 0, 0, 0, 0)]), ([.inl ((-1), 3, 0, 0), .inl ((-1), (-1), 0, 0), .inl (3, 3, 0, 0), .inl (1, 1, 0, 0)], [(5, 0, 0, 0, 0, 0)])], [], [], (0, 0), [])
def u_X7_isIn_31 : List en_U := []
def x_X7_isIn_31 : en_Cx := ((en_KT, en_TY0, en_om0), en_FTX7, en_PTX7, [], en_LTX7, en_LLX7, en_TTX7, en_ACX7)
def m_X7_isIn_31 : en_Mx := (k_X7_isIn_31, 0, 3, (0, 2), tb_X7_isIn, [])
set_option maxRecDepth 100000 in
theorem ck_X7_isIn_31 : en_all x_X7_isIn_31 m_X7_isIn_31 u_X7_isIn_31 12 = true := by decide +kernel
theorem ct_X7_isIn_31 {l : Launch} (hl : l.stackTraces = false) {cx cy : Int32} : en_Ctr l vwCl en_TY0 (en_Pc cx cy) en_om0 (en_Of cx cy) en_KT yX7_isIn (Cond.code yX7_isIn cX7_isIn 3 (some .boolean) :: en_cw) (en_rm 0 (0, 0)) 0 k_X7_isIn_31 :=
  en_main (X := x_X7_isIn_31) (M := m_X7_isIn_31) en_Pc_ok en_f32_ok en_f64_ok hl (by decide +kernel) ⟨en_FTX7_ok, en_PTX7_ok, en_an, en_LTX7_ok, en_LLX7_ok, en_TTX7_ok hl, ⟨cw256, cw147⟩, en_ACX7_ok⟩ de_X7_isIn ck_X7_isIn_31
def k_X7_conditions_1 : en_K := (2, ([.inr (.inl 20), .inl ((-2147483648), 2147483647, 0, 0)], [(5, 0, 0, 0, 0, 0)]), [([.inr (.inl 20), .inl ((-2147483648), 2147483647, 0, 0), .inl ((-2147483648), 2147483647, 0, 0)], [(5, 0, 0, 0, 0, 0)])], [(20, 29), (20, 30)], [20], (0, 0), [])
def u_X7_conditions_1 : List en_U := []
def x_X7_conditions_1 : en_Cx := ((en_KT, en_TY0, en_om0), en_FTX7, en_PTX7, [(82, false, 0, 0, 0, k_X7_isIn_31), (110, true, 13, 0, 0, k_X7_isThrown_3), (110, true, 13, 0, 0, k_X7_isThrown_4)], en_LTX7, en_LLX7, en_TTX7, en_ACX7)
def m_X7_conditions_1 : en_Mx := (k_X7_conditions_1, 1, 3, (0, 0), tb_X7_conditions, [])
set_option maxRecDepth 100000 in
theorem ck_X7_conditions_1 : en_all x_X7_conditions_1 m_X7_conditions_1 u_X7_conditions_1 21 = true := by decide +kernel
theorem ct_X7_conditions_1 {l : Launch} (hl : l.stackTraces = false) {cx cy : Int32} : en_Ctr l vwCl en_TY0 (en_Pc cx cy) en_om0 (en_Of cx cy) en_KT yX7_conditions (Cond.code yX7_conditions cX7_conditions 3 (some .int) :: en_cw) (en_rm 1 (0, 0)) 0 k_X7_conditions_1 :=
  en_main (X := x_X7_conditions_1) (M := m_X7_conditions_1) en_Pc_ok en_f32_ok en_f64_ok hl (by decide +kernel) ⟨en_FTX7_ok, en_PTX7_ok, en_ac (⟨yX7_isIn, RX7, cX7_isIn, 3, (some .boolean), by decide, ct_X7_isIn_31 hl, fun h => Bool.noConfusion h, fun _ => gc_RX7_82s⟩) (en_ac (⟨yX7_isThrown, RX7, cX7_isThrown, 3, (some .boolean), by decide, ct_X7_isThrown_3 hl, fun _ => ⟨gc_RX7_110v, by decide, _, rfl, rfl⟩, fun h => Bool.noConfusion h⟩) (en_ac (⟨yX7_isThrown, RX7, cX7_isThrown, 3, (some .boolean), by decide, ct_X7_isThrown_4 hl, fun _ => ⟨gc_RX7_110v, by decide, _, rfl, rfl⟩, fun h => Bool.noConfusion h⟩) en_an)), en_LTX7_ok, en_LLX7_ok, en_TTX7_ok hl, ⟨cw256, cw147⟩, en_ACX7_ok⟩ de_X7_conditions ck_X7_conditions_1
def tb_X7_correct : en_Tb := [
  (28, [(0, .aload_n 0, 1), (1, .aload_n 0, 1), (2, .iload_n 1, 1), (3, .invokevirtual 132, 3), (6, .iconst 1, 1), (7, .invokevirtual 110, 3), (10, .ifCond .ne 48, 3), (13, .aload_n 0, 1), (14, .aload_n 0, 1), (15, .getfield 135, 3), (18, .ifCond .ne 7, 3), (21, .iconst 1, 1), (22, .goto 4, 3), (25, .iconst 0, 1), (26, .iconst 2, 1), (27, .invokevirtual 110, 3)]), 
  (59, [(30, .ifCond .ne 28, 3), (33, .aload_n 0, 1), (34, .aload_n 0, 1), (35, .getfield 23, 3), (38, .iload_n 1, 1), (39, .aaload, 1), (40, .bipush 16, 2), (42, .iaload, 1), (43, .ifCond .ne 7, 3), (46, .iconst 1, 1), (47, .goto 4, 3), (50, .iconst 0, 1), (51, .iconst 3, 1), (52, .invokevirtual 110, 3), (55, .ifCond .eq 5, 3), (58, .iconst 0, 1)]), 
  (80, [(59, .ireturn, 1), (60, .aload_n 0, 1), (61, .getfield 23, 3), (64, .iload_n 1, 1), (65, .aaload, 1), (66, .astore_n 2, 1), (67, .aload_n 0, 1), (68, .iconst (-1), 1), (69, .putfield 160, 3), (72, .aload_n 2, 1), (73, .bipush 16, 2), (75, .iconst 0, 1), (76, .iastore, 1), (77, .aload_n 2, 1), (78, .iconst 0, 1), (79, .bipush 108, 2)]), 
  (99, [(81, .iastore, 1), (82, .aload_n 2, 1), (83, .iconst 1, 1), (84, .aload_n 2, 1), (85, .bipush 17, 2), (87, .iaload, 1), (88, .iastore, 1), (89, .aload_n 2, 1), (90, .iconst 2, 1), (91, .aload_n 2, 1), (92, .bipush 18, 2), (94, .iaload, 1), (95, .iastore, 1), (96, .aload_n 2, 1), (97, .iconst 3, 1), (98, .iconst 0, 1)]), 
  (118, [(99, .iastore, 1), (100, .aload_n 2, 1), (101, .iconst 4, 1), (102, .aload_n 2, 1), (103, .bipush 19, 2), (105, .iaload, 1), (106, .iastore, 1), (107, .aload_n 2, 1), (108, .iconst 5, 1), (109, .aload_n 2, 1), (110, .bipush 20, 2), (112, .iaload, 1), (113, .iastore, 1), (114, .aload_n 2, 1), (115, .bipush 6, 2), (117, .aload_n 2, 1)]), 
  (139, [(118, .bipush 21, 2), (120, .iaload, 1), (121, .iastore, 1), (122, .aload_n 2, 1), (123, .bipush 7, 2), (125, .aload_n 2, 1), (126, .bipush 22, 2), (128, .iaload, 1), (129, .iastore, 1), (130, .aload_n 2, 1), (131, .bipush 8, 2), (133, .aload_n 2, 1), (134, .bipush 23, 2), (136, .iaload, 1), (137, .iconst 2, 1), (138, .iadd, 1)]), 
  (155, [(139, .iastore, 1), (140, .aload_n 2, 1), (141, .bipush 13, 2), (143, .iconst 0, 1), (144, .iastore, 1), (145, .aload_n 2, 1), (146, .bipush 10, 2), (148, .iconst 0, 1), (149, .iastore, 1), (150, .aload_n 2, 1), (151, .invokestatic 207, 3), (154, .ireturn, 1)])]
set_option maxRecDepth 40000 in
theorem de_X7_correct : en_De tb_X7_correct cX7_correct := by
  unfold en_De
  decide +kernel
def k_X7_correct_0 : en_K := (2, ([.inr (.inl 20), .inl ((-2147483648), 2147483647, 0, 0), .inl (0, 0, 0, 0)], [(0, 0, 22, 2, 0, 0)]), [([.inr (.inl 20), .inl ((-2147483648), 2147483647, 0, 0), .inl (0, 0, 0, 0)], [])], [(20, 30)], [20], (0, 0), [])
def u_X7_correct_0 : List en_U := []
def x_X7_correct_0 : en_Cx := ((en_KT, en_TY0, en_om0), en_FTX7, en_PTX7, [(110, true, 13, 0, 0, k_X7_isThrown_0), (110, true, 13, 0, 0, k_X7_isThrown_1), (110, true, 13, 0, 0, k_X7_isThrown_2), (132, true, 13, 0, 1, k_X7_isNoPlayer_0)], en_LTX7, en_LLX7, en_TTX7, en_ACX7)
def m_X7_correct_0 : en_Mx := (k_X7_correct_0, 2, 3, (0, 0), tb_X7_correct, [])
set_option maxRecDepth 100000 in
theorem ck_X7_correct_0 : en_all x_X7_correct_0 m_X7_correct_0 u_X7_correct_0 21 = true := by decide +kernel
theorem ct_X7_correct_0 {l : Launch} (hl : l.stackTraces = false) {cx cy : Int32} : en_Ctr l vwCl en_TY0 (en_Pc cx cy) en_om0 (en_Of cx cy) en_KT yX7_correct (Cond.code yX7_correct cX7_correct 3 (some .int) :: en_cw) (en_rm 2 (0, 0)) 0 k_X7_correct_0 :=
  en_main (X := x_X7_correct_0) (M := m_X7_correct_0) en_Pc_ok en_f32_ok en_f64_ok hl (by decide +kernel) ⟨en_FTX7_ok, en_PTX7_ok, en_ac (⟨yX7_isThrown, RX7, cX7_isThrown, 3, (some .boolean), by decide, ct_X7_isThrown_0 hl, fun _ => ⟨gc_RX7_110v, by decide, _, rfl, rfl⟩, fun h => Bool.noConfusion h⟩) (en_ac (⟨yX7_isThrown, RX7, cX7_isThrown, 3, (some .boolean), by decide, ct_X7_isThrown_1 hl, fun _ => ⟨gc_RX7_110v, by decide, _, rfl, rfl⟩, fun h => Bool.noConfusion h⟩) (en_ac (⟨yX7_isThrown, RX7, cX7_isThrown, 3, (some .boolean), by decide, ct_X7_isThrown_2 hl, fun _ => ⟨gc_RX7_110v, by decide, _, rfl, rfl⟩, fun h => Bool.noConfusion h⟩) (en_ac (⟨yX7_isNoPlayer, RX7, cX7_isNoPlayer, 2, (some .boolean), by decide, ct_X7_isNoPlayer_0 hl, fun _ => ⟨gc_RX7_132v, by decide, _, rfl, rfl⟩, fun h => Bool.noConfusion h⟩) en_an))), en_LTX7_ok, en_LLX7_ok, en_TTX7_ok hl, ⟨cw256, cw147⟩, en_ACX7_ok⟩ de_X7_correct ck_X7_correct_0
def k_X7_correct_1 : en_K := (2, ([.inr (.inl 20), .inl ((-2147483648), 2147483647, 0, 0), .inl (1, 1, 0, 0)], [(0, 0, 22, 2, 0, 0), (5, 0, 0, 0, 0, 0)]), [([.inr (.inl 20), .inl ((-2147483648), 2147483647, 0, 0), .inl ((-2147483648), 2147483647, 0, 0)], [(5, 0, 0, 0, 0, 0)])], [(20, 28), (20, 30), (27, 0)], [20, 26, 27], (0, 0), [])
def u_X7_correct_1 : List en_U := []
def x_X7_correct_1 : en_Cx := ((en_KT, en_TY0, en_om0), en_FTX7, en_PTX7, [(110, true, 13, 0, 0, k_X7_isThrown_3), (110, true, 13, 0, 0, k_X7_isThrown_4), (110, true, 13, 0, 0, k_X7_isThrown_5), (110, true, 13, 0, 0, k_X7_isThrown_6), (110, true, 13, 0, 0, k_X7_isThrown_7), (132, true, 13, 0, 1, k_X7_isNoPlayer_1), (207, false, 0, 0, 0, k_X7_scoreOf_0)], en_LTX7, en_LLX7, en_TTX7, en_ACX7)
def m_X7_correct_1 : en_Mx := (k_X7_correct_1, 2, 3, (0, 0), tb_X7_correct, [])
set_option maxRecDepth 100000 in
theorem ck_X7_correct_1 : en_all x_X7_correct_1 m_X7_correct_1 u_X7_correct_1 105 = true := by decide +kernel
theorem ct_X7_correct_1 {l : Launch} (hl : l.stackTraces = false) {cx cy : Int32} : en_Ctr l vwCl en_TY0 (en_Pc cx cy) en_om0 (en_Of cx cy) en_KT yX7_correct (Cond.code yX7_correct cX7_correct 3 (some .int) :: en_cw) (en_rm 2 (0, 0)) 0 k_X7_correct_1 :=
  en_main (X := x_X7_correct_1) (M := m_X7_correct_1) en_Pc_ok en_f32_ok en_f64_ok hl (by decide +kernel) ⟨en_FTX7_ok, en_PTX7_ok, en_ac (⟨yX7_isThrown, RX7, cX7_isThrown, 3, (some .boolean), by decide, ct_X7_isThrown_3 hl, fun _ => ⟨gc_RX7_110v, by decide, _, rfl, rfl⟩, fun h => Bool.noConfusion h⟩) (en_ac (⟨yX7_isThrown, RX7, cX7_isThrown, 3, (some .boolean), by decide, ct_X7_isThrown_4 hl, fun _ => ⟨gc_RX7_110v, by decide, _, rfl, rfl⟩, fun h => Bool.noConfusion h⟩) (en_ac (⟨yX7_isThrown, RX7, cX7_isThrown, 3, (some .boolean), by decide, ct_X7_isThrown_5 hl, fun _ => ⟨gc_RX7_110v, by decide, _, rfl, rfl⟩, fun h => Bool.noConfusion h⟩) (en_ac (⟨yX7_isThrown, RX7, cX7_isThrown, 3, (some .boolean), by decide, ct_X7_isThrown_6 hl, fun _ => ⟨gc_RX7_110v, by decide, _, rfl, rfl⟩, fun h => Bool.noConfusion h⟩) (en_ac (⟨yX7_isThrown, RX7, cX7_isThrown, 3, (some .boolean), by decide, ct_X7_isThrown_7 hl, fun _ => ⟨gc_RX7_110v, by decide, _, rfl, rfl⟩, fun h => Bool.noConfusion h⟩) (en_ac (⟨yX7_isNoPlayer, RX7, cX7_isNoPlayer, 2, (some .boolean), by decide, ct_X7_isNoPlayer_1 hl, fun _ => ⟨gc_RX7_132v, by decide, _, rfl, rfl⟩, fun h => Bool.noConfusion h⟩) (en_ac (⟨yX7_scoreOf, RX7, cX7_scoreOf, 1, (some .int), by decide, ct_X7_scoreOf_0 hl, fun h => Bool.noConfusion h, fun _ => gc_RX7_207s⟩) en_an)))))), en_LTX7_ok, en_LLX7_ok, en_TTX7_ok hl, ⟨cw256, cw147⟩, en_ACX7_ok⟩ de_X7_correct ck_X7_correct_1
def k_X7_correct_2 : en_K := (2, ([.inr (.inl 20), .inl ((-2147483648), 2147483647, 0, 0), .inl (1, 1, 0, 0), .inl ((-1), (-1), 0, 0)], [(0, 0, 22, 2, 0, 0), (0, 0, 28, 3, 0, 0), (5, 0, 0, 0, 0, 0)]), [([.inr (.inl 20), .inl ((-2147483648), 2147483647, 0, 0), .inl ((-2147483648), 2147483647, 0, 0), .inl ((-1), (-1), 0, 0)], [(0, 0, 28, 3, 0, 0), (5, 0, 0, 0, 0, 0)])], [(20, 28), (20, 30), (27, 0)], [20, 26, 27], (0, 0), [])
def u_X7_correct_2 : List en_U := []
def x_X7_correct_2 : en_Cx := ((en_KT, en_TY0, en_om0), en_FTX7, en_PTX7, [(110, true, 13, 0, 0, k_X7_isThrown_3), (110, true, 13, 0, 0, k_X7_isThrown_4), (110, true, 13, 0, 0, k_X7_isThrown_5), (110, true, 13, 0, 0, k_X7_isThrown_6), (110, true, 13, 0, 0, k_X7_isThrown_7), (132, true, 13, 0, 1, k_X7_isNoPlayer_1), (207, false, 0, 0, 0, k_X7_scoreOf_0)], en_LTX7, en_LLX7, en_TTX7, en_ACX7)
def m_X7_correct_2 : en_Mx := (k_X7_correct_2, 2, 3, (0, 0), tb_X7_correct, [])
set_option maxRecDepth 100000 in
theorem ck_X7_correct_2 : en_all x_X7_correct_2 m_X7_correct_2 u_X7_correct_2 105 = true := by decide +kernel
theorem ct_X7_correct_2 {l : Launch} (hl : l.stackTraces = false) {cx cy : Int32} : en_Ctr l vwCl en_TY0 (en_Pc cx cy) en_om0 (en_Of cx cy) en_KT yX7_correct (Cond.code yX7_correct cX7_correct 3 (some .int) :: en_cw) (en_rm 2 (0, 0)) 0 k_X7_correct_2 :=
  en_main (X := x_X7_correct_2) (M := m_X7_correct_2) en_Pc_ok en_f32_ok en_f64_ok hl (by decide +kernel) ⟨en_FTX7_ok, en_PTX7_ok, en_ac (⟨yX7_isThrown, RX7, cX7_isThrown, 3, (some .boolean), by decide, ct_X7_isThrown_3 hl, fun _ => ⟨gc_RX7_110v, by decide, _, rfl, rfl⟩, fun h => Bool.noConfusion h⟩) (en_ac (⟨yX7_isThrown, RX7, cX7_isThrown, 3, (some .boolean), by decide, ct_X7_isThrown_4 hl, fun _ => ⟨gc_RX7_110v, by decide, _, rfl, rfl⟩, fun h => Bool.noConfusion h⟩) (en_ac (⟨yX7_isThrown, RX7, cX7_isThrown, 3, (some .boolean), by decide, ct_X7_isThrown_5 hl, fun _ => ⟨gc_RX7_110v, by decide, _, rfl, rfl⟩, fun h => Bool.noConfusion h⟩) (en_ac (⟨yX7_isThrown, RX7, cX7_isThrown, 3, (some .boolean), by decide, ct_X7_isThrown_6 hl, fun _ => ⟨gc_RX7_110v, by decide, _, rfl, rfl⟩, fun h => Bool.noConfusion h⟩) (en_ac (⟨yX7_isThrown, RX7, cX7_isThrown, 3, (some .boolean), by decide, ct_X7_isThrown_7 hl, fun _ => ⟨gc_RX7_110v, by decide, _, rfl, rfl⟩, fun h => Bool.noConfusion h⟩) (en_ac (⟨yX7_isNoPlayer, RX7, cX7_isNoPlayer, 2, (some .boolean), by decide, ct_X7_isNoPlayer_1 hl, fun _ => ⟨gc_RX7_132v, by decide, _, rfl, rfl⟩, fun h => Bool.noConfusion h⟩) (en_ac (⟨yX7_scoreOf, RX7, cX7_scoreOf, 1, (some .int), by decide, ct_X7_scoreOf_0 hl, fun h => Bool.noConfusion h, fun _ => gc_RX7_207s⟩) en_an)))))), en_LTX7_ok, en_LLX7_ok, en_TTX7_ok hl, ⟨cw256, cw147⟩, en_ACX7_ok⟩ de_X7_correct ck_X7_correct_2
def k_X7_isIn_32 : en_K := (3, ([.inl ((-2147483648), 2147483647, 0, 0), .inl (1, 1, 0, 0), .inl (6, 6, 0, 0)], []), [([.inl ((-2147483648), 2147483647, 0, 0), .inl (1, 1, 0, 0), .inl (6, 6, 0, 0), .inl (0, 0, 0, 0)], []), ([.inl (1, 6, 0, 0), .inl (1, 1, 0, 0), .inl (6, 6, 0, 0), .inl (1, 1, 0, 0)], [])], [], [], (0, 0), [])
def u_X7_isIn_32 : List en_U := []
def x_X7_isIn_32 : en_Cx := ((en_KT, en_TY0, en_om0), en_FTX7, en_PTX7, [], en_LTX7, en_LLX7, en_TTX7, en_ACX7)
def m_X7_isIn_32 : en_Mx := (k_X7_isIn_32, 0, 3, (0, 2), tb_X7_isIn, [])
set_option maxRecDepth 100000 in
theorem ck_X7_isIn_32 : en_all x_X7_isIn_32 m_X7_isIn_32 u_X7_isIn_32 12 = true := by decide +kernel
theorem ct_X7_isIn_32 {l : Launch} (hl : l.stackTraces = false) {cx cy : Int32} : en_Ctr l vwCl en_TY0 (en_Pc cx cy) en_om0 (en_Of cx cy) en_KT yX7_isIn (Cond.code yX7_isIn cX7_isIn 3 (some .boolean) :: en_cw) (en_rm 0 (0, 0)) 0 k_X7_isIn_32 :=
  en_main (X := x_X7_isIn_32) (M := m_X7_isIn_32) en_Pc_ok en_f32_ok en_f64_ok hl (by decide +kernel) ⟨en_FTX7_ok, en_PTX7_ok, en_an, en_LTX7_ok, en_LLX7_ok, en_TTX7_ok hl, ⟨cw256, cw147⟩, en_ACX7_ok⟩ de_X7_isIn ck_X7_isIn_32
def tb_X7_isRanked : en_Tb := [
  (24, [(0, .aload_n 0, 1), (1, .getfield 38, 3), (4, .iload_n 1, 1), (5, .baload, 1), (6, .ifCond .eq 16, 3), (9, .aload_n 0, 1), (10, .getfield 42, 3), (13, .iload_n 1, 1), (14, .baload, 1), (15, .ifCond .ne 7, 3), (18, .iconst 1, 1), (19, .goto 4, 3), (22, .iconst 0, 1), (23, .ireturn, 1)])]
set_option maxRecDepth 40000 in
theorem de_X7_isRanked : en_De tb_X7_isRanked cX7_isRanked := by
  unfold en_De
  decide +kernel
def k_X7_isRanked_0 : en_K := (2, ([.inr (.inl 20), .inl (0, 5, 0, 0)], []), [([.inr (.inl 20), .inl (0, 5, 0, 0), .inl (0, 0, 0, 0)], []), ([.inr (.inl 20), .inl (0, 5, 0, 0), .inl (1, 1, 0, 0)], [])], [], [20, 35, 36], (0, 0), [])
def u_X7_isRanked_0 : List en_U := []
def x_X7_isRanked_0 : en_Cx := ((en_KT, en_TY0, en_om0), en_FTX7, en_PTX7, [], en_LTX7, en_LLX7, en_TTX7, en_ACX7)
def m_X7_isRanked_0 : en_Mx := (k_X7_isRanked_0, 0, 2, (0, 2), tb_X7_isRanked, [])
set_option maxRecDepth 100000 in
theorem ck_X7_isRanked_0 : en_all x_X7_isRanked_0 m_X7_isRanked_0 u_X7_isRanked_0 16 = true := by decide +kernel
theorem ct_X7_isRanked_0 {l : Launch} (hl : l.stackTraces = false) {cx cy : Int32} : en_Ctr l vwCl en_TY0 (en_Pc cx cy) en_om0 (en_Of cx cy) en_KT yX7_isRanked (Cond.code yX7_isRanked cX7_isRanked 2 (some .boolean) :: en_cw) (en_rm 0 (0, 0)) 0 k_X7_isRanked_0 :=
  en_main (X := x_X7_isRanked_0) (M := m_X7_isRanked_0) en_Pc_ok en_f32_ok en_f64_ok hl (by decide +kernel) ⟨en_FTX7_ok, en_PTX7_ok, en_an, en_LTX7_ok, en_LLX7_ok, en_TTX7_ok hl, ⟨cw256, cw147⟩, en_ACX7_ok⟩ de_X7_isRanked ck_X7_isRanked_0
def tb_X7_sumFrom : en_Tb := [
  (25, [(0, .iconst 0, 1), (1, .istore_n 3, 1), (2, .iload_n 2, 1), (3, .istore 4, 2), (5, .iload 4, 2), (7, .aload_n 0, 1), (8, .getfield 86, 3), (11, .if_icmp .ge 21, 3), (14, .iload_n 3, 1), (15, .aload_n 0, 1), (16, .getfield 35, 3), (19, .iload_n 1, 1), (20, .aaload, 1), (21, .iload 4, 2), (23, .iaload, 1), (24, .iadd, 1)]), 
  (34, [(25, .istore_n 3, 1), (26, .iinc 4 1, 3), (29, .goto (-24), 3), (32, .iload_n 3, 1), (33, .ireturn, 1)])]
set_option maxRecDepth 40000 in
theorem de_X7_sumFrom : en_De tb_X7_sumFrom cX7_sumFrom := by
  unfold en_De
  decide +kernel
def k_X7_sumFrom_0 : en_K := (3, ([.inr (.inl 20), .inl (0, 5, 0, 0), .inl (0, 9, 0, 0)], []), [([.inr (.inl 20), .inl (0, 5, 0, 0), .inl (0, 9, 0, 0), .inl ((-2147483648), 2147483647, 0, 0)], [])], [], [20, 33, 34], (0, 0), [])
def u_X7_sumFrom_0 : List en_U := [
  (5, ([.inr (.inl 20), .inl (0, 5, 0, 0), .inl (0, 9, 0, 0), .inl (0, 9, 0, 0), .inl ((-2147483648), 2147483647, 0, 0)], []), [(0, 0), (1, 1), (2, 2), (4, 3), (3, 4)], (0, 0), [((-2), 3)], 22)]
def x_X7_sumFrom_0 : en_Cx := ((en_KT, en_TY0, en_om0), en_FTX7, en_PTX7, [], en_LTX7, en_LLX7, en_TTX7, en_ACX7)
def m_X7_sumFrom_0 : en_Mx := (k_X7_sumFrom_0, 0, 5, (0, 0), tb_X7_sumFrom, [])
set_option maxRecDepth 100000 in
theorem ck_X7_sumFrom_0 : en_all x_X7_sumFrom_0 m_X7_sumFrom_0 u_X7_sumFrom_0 18 = true := by decide +kernel
theorem ct_X7_sumFrom_0 {l : Launch} (hl : l.stackTraces = false) {cx cy : Int32} : en_Ctr l vwCl en_TY0 (en_Pc cx cy) en_om0 (en_Of cx cy) en_KT yX7_sumFrom (Cond.code yX7_sumFrom cX7_sumFrom 5 (some .int) :: en_cw) (en_rm 0 (0, 0)) 0 k_X7_sumFrom_0 :=
  en_main (X := x_X7_sumFrom_0) (M := m_X7_sumFrom_0) en_Pc_ok en_f32_ok en_f64_ok hl (by decide +kernel) ⟨en_FTX7_ok, en_PTX7_ok, en_an, en_LTX7_ok, en_LLX7_ok, en_TTX7_ok hl, ⟨cw256, cw147⟩, en_ACX7_ok⟩ de_X7_sumFrom ck_X7_sumFrom_0
def tb_X7_rankOf : en_Tb := [
  (24, [(0, .iconst 1, 1), (1, .istore_n 2, 1), (2, .iconst 0, 1), (3, .istore_n 3, 1), (4, .iload_n 3, 1), (5, .aload_n 0, 1), (6, .getfield 89, 3), (9, .if_icmp .ge 40, 3), (12, .iload_n 2, 1), (13, .aload_n 0, 1), (14, .iload_n 3, 1), (15, .invokevirtual 272, 3), (18, .ifCond .eq 22, 3), (21, .aload_n 0, 1), (22, .iload_n 3, 1), (23, .iconst 0, 1)]), 
  (51, [(24, .invokevirtual 255, 3), (27, .aload_n 0, 1), (28, .iload_n 1, 1), (29, .iconst 0, 1), (30, .invokevirtual 255, 3), (33, .if_icmp .ge 7, 3), (36, .iconst 1, 1), (37, .goto 4, 3), (40, .iconst 0, 1), (41, .iadd, 1), (42, .istore_n 2, 1), (43, .iinc 3 1, 3), (46, .goto (-42), 3), (49, .iload_n 2, 1), (50, .ireturn, 1)])]
set_option maxRecDepth 40000 in
theorem de_X7_rankOf : en_De tb_X7_rankOf cX7_rankOf := by
  unfold en_De
  decide +kernel
def k_X7_rankOf_0 : en_K := (2, ([.inr (.inl 20), .inl (0, 5, 0, 0)], []), [([.inr (.inl 20), .inl (0, 5, 0, 0), .inl ((-2147483648), 2147483647, 0, 0)], [])], [], [20, 33, 34, 35, 36], (0, 0), [])
def u_X7_rankOf_0 : List en_U := [
  (4, ([.inr (.inl 20), .inl (0, 5, 0, 0), .inl (0, 6, 0, 0), .inl ((-2147483648), 2147483647, 0, 0)], []), [(0, 0), (1, 1), (3, 2), (2, 3)], (0, 0), [((-2), 2)], 16)]
def x_X7_rankOf_0 : en_Cx := ((en_KT, en_TY0, en_om0), en_FTX7, en_PTX7, [(255, true, 13, 0, 0, k_X7_sumFrom_0), (272, true, 13, 0, 0, k_X7_isRanked_0)], en_LTX7, en_LLX7, en_TTX7, en_ACX7)
def m_X7_rankOf_0 : en_Mx := (k_X7_rankOf_0, 1, 4, (0, 0), tb_X7_rankOf, [])
set_option maxRecDepth 100000 in
theorem ck_X7_rankOf_0 : en_all x_X7_rankOf_0 m_X7_rankOf_0 u_X7_rankOf_0 27 = true := by decide +kernel
theorem ct_X7_rankOf_0 {l : Launch} (hl : l.stackTraces = false) {cx cy : Int32} : en_Ctr l vwCl en_TY0 (en_Pc cx cy) en_om0 (en_Of cx cy) en_KT yX7_rankOf (Cond.code yX7_rankOf cX7_rankOf 4 (some .int) :: en_cw) (en_rm 1 (0, 0)) 0 k_X7_rankOf_0 :=
  en_main (X := x_X7_rankOf_0) (M := m_X7_rankOf_0) en_Pc_ok en_f32_ok en_f64_ok hl (by decide +kernel) ⟨en_FTX7_ok, en_PTX7_ok, en_ac (⟨yX7_sumFrom, RX7, cX7_sumFrom, 5, (some .int), by decide, ct_X7_sumFrom_0 hl, fun _ => ⟨gc_RX7_255v, by decide, _, rfl, rfl⟩, fun h => Bool.noConfusion h⟩) (en_ac (⟨yX7_isRanked, RX7, cX7_isRanked, 2, (some .boolean), by decide, ct_X7_isRanked_0 hl, fun _ => ⟨gc_RX7_272v, by decide, _, rfl, rfl⟩, fun h => Bool.noConfusion h⟩) en_an), en_LTX7_ok, en_LLX7_ok, en_TTX7_ok hl, ⟨cw256, cw147⟩, en_ACX7_ok⟩ de_X7_rankOf ck_X7_rankOf_0
def tb_X7_cut : en_Tb := [
  (27, [(0, .aload_n 0, 1), (1, .iload_n 1, 1), (2, .iconst 1, 1), (3, .bipush 6, 2), (5, .invokestatic 82, 3), (8, .ifCond .ne 7, 3), (11, .iconst 1, 1), (12, .goto 4, 3), (15, .iconst 0, 1), (16, .iconst 1, 1), (17, .invokevirtual 110, 3), (20, .ifCond .eq 5, 3), (23, .iconst 0, 1), (24, .ireturn, 1), (25, .iconst 0, 1), (26, .istore_n 2, 1)]), 
  (53, [(27, .iconst 0, 1), (28, .istore_n 3, 1), (29, .iload_n 3, 1), (30, .aload_n 0, 1), (31, .getfield 89, 3), (34, .if_icmp .ge 34, 3), (37, .iload_n 2, 1), (38, .aload_n 0, 1), (39, .iload_n 3, 1), (40, .invokevirtual 272, 3), (43, .ifCond .eq 16, 3), (46, .aload_n 0, 1), (47, .iload_n 3, 1), (48, .invokevirtual 275, 3), (51, .iload_n 1, 1), (52, .if_icmp .gt 7, 3)]), 
  (70, [(55, .iconst 1, 1), (56, .goto 4, 3), (59, .iconst 0, 1), (60, .iadd, 1), (61, .istore_n 2, 1), (62, .iinc 3 1, 3), (65, .goto (-36), 3), (68, .iload_n 2, 1), (69, .ireturn, 1)])]
set_option maxRecDepth 40000 in
theorem de_X7_cut : en_De tb_X7_cut cX7_cut := by
  unfold en_De
  decide +kernel
def k_X7_cut_0 : en_K := (2, ([.inr (.inl 20), .inl ((-2147483648), 2147483647, 0, 0)], []), [([.inr (.inl 20), .inl ((-2147483648), 2147483647, 0, 0), .inl ((-2147483648), 2147483647, 0, 0)], [])], [(20, 30)], [20, 33, 34, 35, 36], (0, 0), [])
def u_X7_cut_0 : List en_U := [
  (29, ([.inr (.inl 20), .inl (1, 6, 0, 0), .inl (0, 6, 0, 0), .inl ((-2147483648), 2147483647, 0, 0)], []), [(0, 0), (1, 1), (3, 2), (2, 3)], (0, 0), [((-2), 2)], 16)]
def x_X7_cut_0 : en_Cx := ((en_KT, en_TY0, en_om0), en_FTX7, en_PTX7, [(82, false, 0, 0, 0, k_X7_isIn_32), (110, true, 13, 0, 0, k_X7_isThrown_0), (110, true, 13, 0, 0, k_X7_isThrown_1), (272, true, 13, 0, 0, k_X7_isRanked_0), (275, true, 13, 0, 1, k_X7_rankOf_0)], en_LTX7, en_LLX7, en_TTX7, en_ACX7)
def m_X7_cut_0 : en_Mx := (k_X7_cut_0, 2, 4, (0, 0), tb_X7_cut, [])
set_option maxRecDepth 100000 in
theorem ck_X7_cut_0 : en_all x_X7_cut_0 m_X7_cut_0 u_X7_cut_0 23 = true := by decide +kernel
theorem ct_X7_cut_0 {l : Launch} (hl : l.stackTraces = false) {cx cy : Int32} : en_Ctr l vwCl en_TY0 (en_Pc cx cy) en_om0 (en_Of cx cy) en_KT yX7_cut (Cond.code yX7_cut cX7_cut 4 (some .int) :: en_cw) (en_rm 2 (0, 0)) 0 k_X7_cut_0 :=
  en_main (X := x_X7_cut_0) (M := m_X7_cut_0) en_Pc_ok en_f32_ok en_f64_ok hl (by decide +kernel) ⟨en_FTX7_ok, en_PTX7_ok, en_ac (⟨yX7_isIn, RX7, cX7_isIn, 3, (some .boolean), by decide, ct_X7_isIn_32 hl, fun h => Bool.noConfusion h, fun _ => gc_RX7_82s⟩) (en_ac (⟨yX7_isThrown, RX7, cX7_isThrown, 3, (some .boolean), by decide, ct_X7_isThrown_0 hl, fun _ => ⟨gc_RX7_110v, by decide, _, rfl, rfl⟩, fun h => Bool.noConfusion h⟩) (en_ac (⟨yX7_isThrown, RX7, cX7_isThrown, 3, (some .boolean), by decide, ct_X7_isThrown_1 hl, fun _ => ⟨gc_RX7_110v, by decide, _, rfl, rfl⟩, fun h => Bool.noConfusion h⟩) (en_ac (⟨yX7_isRanked, RX7, cX7_isRanked, 2, (some .boolean), by decide, ct_X7_isRanked_0 hl, fun _ => ⟨gc_RX7_272v, by decide, _, rfl, rfl⟩, fun h => Bool.noConfusion h⟩) (en_ac (⟨yX7_rankOf, RX7, cX7_rankOf, 4, (some .int), by decide, ct_X7_rankOf_0 hl, fun _ => ⟨gc_RX7_275v, by decide, _, rfl, rfl⟩, fun h => Bool.noConfusion h⟩) en_an)))), en_LTX7_ok, en_LLX7_ok, en_TTX7_ok hl, ⟨cw256, cw147⟩, en_ACX7_ok⟩ de_X7_cut ck_X7_cut_0
def k_X7_isIn_33 : en_K := (3, ([.inl ((-2147483648), 2147483647, 0, 0), .inl (1, 1, 0, 0), .inl (6, 6, 0, 0)], [(5, 0, 0, 0, 0, 0)]), [([.inl ((-2147483648), 2147483647, 0, 0), .inl (1, 1, 0, 0), .inl (6, 6, 0, 0), .inl (0, 0, 0, 0)], [(5, 0, 0, 0, 0, 0)]), ([.inl (1, 6, 0, 0), .inl (1, 1, 0, 0), .inl (6, 6, 0, 0), .inl (1, 1, 0, 0)], [(5, 0, 0, 0, 0, 0)])], [], [], (0, 0), [])
def u_X7_isIn_33 : List en_U := []
def x_X7_isIn_33 : en_Cx := ((en_KT, en_TY0, en_om0), en_FTX7, en_PTX7, [], en_LTX7, en_LLX7, en_TTX7, en_ACX7)
def m_X7_isIn_33 : en_Mx := (k_X7_isIn_33, 0, 3, (0, 2), tb_X7_isIn, [])
set_option maxRecDepth 100000 in
theorem ck_X7_isIn_33 : en_all x_X7_isIn_33 m_X7_isIn_33 u_X7_isIn_33 12 = true := by decide +kernel
theorem ct_X7_isIn_33 {l : Launch} (hl : l.stackTraces = false) {cx cy : Int32} : en_Ctr l vwCl en_TY0 (en_Pc cx cy) en_om0 (en_Of cx cy) en_KT yX7_isIn (Cond.code yX7_isIn cX7_isIn 3 (some .boolean) :: en_cw) (en_rm 0 (0, 0)) 0 k_X7_isIn_33 :=
  en_main (X := x_X7_isIn_33) (M := m_X7_isIn_33) en_Pc_ok en_f32_ok en_f64_ok hl (by decide +kernel) ⟨en_FTX7_ok, en_PTX7_ok, en_an, en_LTX7_ok, en_LLX7_ok, en_TTX7_ok hl, ⟨cw256, cw147⟩, en_ACX7_ok⟩ de_X7_isIn ck_X7_isIn_33
def k_X7_isRanked_1 : en_K := (2, ([.inr (.inl 20), .inl (0, 5, 0, 0)], [(5, 0, 0, 0, 0, 0)]), [([.inr (.inl 20), .inl (0, 5, 0, 0), .inl (0, 0, 0, 0)], [(5, 0, 0, 0, 0, 0)]), ([.inr (.inl 20), .inl (0, 5, 0, 0), .inl (1, 1, 0, 0)], [(5, 0, 0, 0, 0, 0)])], [], [20, 35, 36], (0, 0), [])
def u_X7_isRanked_1 : List en_U := []
def x_X7_isRanked_1 : en_Cx := ((en_KT, en_TY0, en_om0), en_FTX7, en_PTX7, [], en_LTX7, en_LLX7, en_TTX7, en_ACX7)
def m_X7_isRanked_1 : en_Mx := (k_X7_isRanked_1, 0, 2, (0, 2), tb_X7_isRanked, [])
set_option maxRecDepth 100000 in
theorem ck_X7_isRanked_1 : en_all x_X7_isRanked_1 m_X7_isRanked_1 u_X7_isRanked_1 16 = true := by decide +kernel
theorem ct_X7_isRanked_1 {l : Launch} (hl : l.stackTraces = false) {cx cy : Int32} : en_Ctr l vwCl en_TY0 (en_Pc cx cy) en_om0 (en_Of cx cy) en_KT yX7_isRanked (Cond.code yX7_isRanked cX7_isRanked 2 (some .boolean) :: en_cw) (en_rm 0 (0, 0)) 0 k_X7_isRanked_1 :=
  en_main (X := x_X7_isRanked_1) (M := m_X7_isRanked_1) en_Pc_ok en_f32_ok en_f64_ok hl (by decide +kernel) ⟨en_FTX7_ok, en_PTX7_ok, en_an, en_LTX7_ok, en_LLX7_ok, en_TTX7_ok hl, ⟨cw256, cw147⟩, en_ACX7_ok⟩ de_X7_isRanked ck_X7_isRanked_1
def k_X7_sumFrom_1 : en_K := (3, ([.inr (.inl 20), .inl (0, 5, 0, 0), .inl (0, 9, 0, 0), .inl (1, 9, 0, 0)], [(0, 0, 16, 3, 0, 0), (5, 0, 0, 0, 0, 0)]), [([.inr (.inl 20), .inl (0, 5, 0, 0), .inl (0, 9, 0, 0), .inl ((-2147483648), 2147483647, 0, 0)], [(5, 0, 0, 0, 0, 0)])], [], [20, 33, 34], (0, 0), [])
def u_X7_sumFrom_1 : List en_U := [
  (5, ([.inr (.inl 20), .inl (0, 5, 0, 0), .inl (0, 9, 0, 0), .inl (0, 9, 0, 0), .inl ((-2147483648), 2147483647, 0, 0), .inl (1, 9, 0, 0)], [(0, 0, 16, 5, 0, 0), (5, 0, 0, 0, 0, 0)]), [(0, 0), (1, 1), (2, 2), (4, 3), (3, 4)], (0, 0), [((-2), 3)], 22)]
def x_X7_sumFrom_1 : en_Cx := ((en_KT, en_TY0, en_om0), en_FTX7, en_PTX7, [], en_LTX7, en_LLX7, en_TTX7, en_ACX7)
def m_X7_sumFrom_1 : en_Mx := (k_X7_sumFrom_1, 0, 5, (0, 0), tb_X7_sumFrom, [])
set_option maxRecDepth 100000 in
theorem ck_X7_sumFrom_1 : en_all x_X7_sumFrom_1 m_X7_sumFrom_1 u_X7_sumFrom_1 18 = true := by decide +kernel
theorem ct_X7_sumFrom_1 {l : Launch} (hl : l.stackTraces = false) {cx cy : Int32} : en_Ctr l vwCl en_TY0 (en_Pc cx cy) en_om0 (en_Of cx cy) en_KT yX7_sumFrom (Cond.code yX7_sumFrom cX7_sumFrom 5 (some .int) :: en_cw) (en_rm 0 (0, 0)) 0 k_X7_sumFrom_1 :=
  en_main (X := x_X7_sumFrom_1) (M := m_X7_sumFrom_1) en_Pc_ok en_f32_ok en_f64_ok hl (by decide +kernel) ⟨en_FTX7_ok, en_PTX7_ok, en_an, en_LTX7_ok, en_LLX7_ok, en_TTX7_ok hl, ⟨cw256, cw147⟩, en_ACX7_ok⟩ de_X7_sumFrom ck_X7_sumFrom_1
