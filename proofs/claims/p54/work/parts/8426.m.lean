def k_X7_isIn_47 : en_K := (3, ([.inl ((-2147483648), 2147483647, 0, 0), .inl (55, 55, 0, 0), .inl (155, 155, 0, 0)], [(5, 0, 0, 0, 0, 0)]), [([.inl ((-2147483648), 2147483647, 0, 0), .inl (55, 55, 0, 0), .inl (155, 155, 0, 0), .inl (0, 0, 0, 0)], [(5, 0, 0, 0, 0, 0)]), ([.inl (55, 155, 0, 0), .inl (55, 55, 0, 0), .inl (155, 155, 0, 0), .inl (1, 1, 0, 0)], [(5, 0, 0, 0, 0, 0)])], [], [], (0, 0), [])
def u_X7_isIn_47 : List en_U := []
def x_X7_isIn_47 : en_Cx := ((en_KT, en_TY0, en_om0), en_FTX7, en_PTX7, [], en_LTX7, en_LLX7, en_TTX7, en_ACX7)
def m_X7_isIn_47 : en_Mx := (k_X7_isIn_47, 0, 3, (0, 2), tb_X7_isIn, [])
set_option maxRecDepth 100000 in
theorem ck_X7_isIn_47 : en_all x_X7_isIn_47 m_X7_isIn_47 u_X7_isIn_47 12 = true := by decide +kernel
theorem ct_X7_isIn_47 {l : Launch} (hl : l.stackTraces = false) {cx cy : Int32} : en_Ctr l vwCl en_TY0 (en_Pc cx cy) en_om0 (en_Of cx cy) en_KT yX7_isIn (Cond.code yX7_isIn cX7_isIn 3 (some .boolean) :: en_cw) (en_rm 0 (0, 0)) 0 k_X7_isIn_47 :=
  en_main (X := x_X7_isIn_47) (M := m_X7_isIn_47) en_Pc_ok en_f32_ok en_f64_ok hl (by decide +kernel) ⟨en_FTX7_ok, en_PTX7_ok, en_an, en_LTX7_ok, en_LLX7_ok, en_TTX7_ok hl, ⟨cw256, cw147⟩, en_ACX7_ok⟩ de_X7_isIn ck_X7_isIn_47
def tb_X7_provisional : en_Tb := [
  (30, [(0, .aload_n 0, 1), (1, .aload_n 0, 1), (2, .iload_n 1, 1), (3, .invokevirtual 132, 3), (6, .ifCond .ne 11, 3), (9, .iload_n 2, 1), (10, .iload_n 3, 1), (11, .invokestatic 106, 3), (14, .ifCond .ne 7, 3), (17, .iconst 1, 1), (18, .goto 4, 3), (21, .iconst 0, 1), (22, .iconst 1, 1), (23, .invokevirtual 110, 3), (26, .ifCond .ne 30, 3), (29, .aload_n 0, 1)]), 
  (61, [(30, .aload_n 0, 1), (31, .getfield 135, 3), (34, .ifCond .eq 10, 3), (37, .aload_n 0, 1), (38, .getfield 145, 3), (41, .ifCond .eq 7, 3), (44, .iconst 1, 1), (45, .goto 4, 3), (48, .iconst 0, 1), (49, .iconst 2, 1), (50, .invokevirtual 110, 3), (53, .ifCond .eq 6, 3), (56, .bipush 32, 2), (58, .ireturn, 1), (59, .aload_n 0, 1), (60, .getfield 23, 3)]), 
  (90, [(63, .iload_n 1, 1), (64, .aaload, 1), (65, .astore 4, 2), (67, .aload 4, 2), (69, .iconst 0, 1), (70, .iaload, 1), (71, .bipush 115, 2), (73, .if_icmp .ne 15, 3), (76, .aload 4, 2), (78, .bipush 10, 2), (80, .iaload, 1), (81, .ifCond .ne 7, 3), (84, .iconst 1, 1), (85, .goto 4, 3), (88, .iconst 0, 1), (89, .istore 5, 2)]), 
  (116, [(91, .iload_n 2, 1), (92, .iload_n 3, 1), (93, .aload 4, 2), (95, .iconst 4, 1), (96, .iaload, 1), (97, .aload 4, 2), (99, .iconst 5, 1), (100, .iaload, 1), (101, .invokestatic 102, 3), (104, .istore 6, 2), (106, .iload 5, 2), (108, .ifCond .eq 32, 3), (111, .aload_n 0, 1), (112, .aload 4, 2), (114, .iconst 4, 1), (115, .iaload, 1)]), 
  (144, [(116, .aload 4, 2), (118, .iconst 5, 1), (119, .iaload, 1), (120, .aload 4, 2), (122, .bipush 6, 2), (124, .iaload, 1), (125, .iconst 1, 1), (126, .if_icmp .ne 7, 3), (129, .iconst 1, 1), (130, .goto 4, 3), (133, .iconst 0, 1), (134, .invokevirtual 183, 3), (137, .goto 4, 3), (140, .iconst 0, 1), (141, .istore 7, 2), (143, .aload_n 0, 1)]), 
  (177, [(144, .iload 5, 2), (146, .ifCond .eq 18, 3), (149, .iload 6, 2), (151, .ifCond .eq 13, 3), (154, .iload 6, 2), (156, .iload 7, 2), (158, .iload 7, 2), (160, .imul, 1), (161, .if_icmp .le 7, 3), (164, .iconst 1, 1), (165, .goto 4, 3), (168, .iconst 0, 1), (169, .iconst 3, 1), (170, .invokevirtual 110, 3), (173, .ifCond .eq 6, 3), (176, .bipush 32, 2)]), 
  (202, [(178, .ireturn, 1), (179, .aload_n 0, 1), (180, .aload 4, 2), (182, .iconst 4, 1), (183, .iaload, 1), (184, .aload 4, 2), (186, .iconst 5, 1), (187, .iaload, 1), (188, .aload 4, 2), (190, .bipush 6, 2), (192, .iaload, 1), (193, .iconst 1, 1), (194, .if_icmp .ne 7, 3), (197, .iconst 1, 1), (198, .goto 4, 3), (201, .iconst 0, 1)]), 
  (230, [(202, .iload 6, 2), (204, .invokevirtual 194, 3), (207, .istore 8, 2), (209, .aload_n 0, 1), (210, .iconst (-1), 1), (211, .putfield 160, 3), (214, .aload 4, 2), (216, .bipush 11, 2), (218, .iload_n 2, 1), (219, .aload_n 0, 1), (220, .iload 8, 2), (222, .invokevirtual 198, 3), (225, .iadd, 1), (226, .iastore, 1), (227, .aload 4, 2), (229, .bipush 12, 2)]), 
  (257, [(231, .iload_n 3, 1), (232, .aload_n 0, 1), (233, .iload 8, 2), (235, .invokevirtual 198, 3), (238, .iadd, 1), (239, .iastore, 1), (240, .aload_n 0, 1), (241, .aload 4, 2), (243, .bipush 11, 2), (245, .iaload, 1), (246, .aload 4, 2), (248, .bipush 12, 2), (250, .iaload, 1), (251, .invokevirtual 201, 3), (254, .istore 9, 2), (256, .aload 4, 2)]), 
  (282, [(258, .bipush 10, 2), (260, .iload 9, 2), (262, .bipush 115, 2), (264, .if_icmp .ne 8, 3), (267, .bipush 103, 2), (269, .goto 5, 3), (272, .iload 9, 2), (274, .iastore, 1), (275, .aload 4, 2), (277, .bipush 10, 2), (279, .iaload, 1), (280, .i2c, 1), (281, .ireturn, 1)])]
set_option maxRecDepth 40000 in
theorem de_X7_provisional : en_De tb_X7_provisional cX7_provisional := by
  unfold en_De
  decide +kernel
def k_X7_provisional_0 : en_K := (4, ([.inr (.inl 20), .inl ((-2147483648), 2147483647, 0, 0), .inl ((-2147483648), 2147483647, 0, 0), .inl ((-2147483648), 2147483647, 0, 0), .inl (0, 0, 0, 0)], [(0, 0, 22, 4, 0, 0)]), [([.inr (.inl 20), .inl ((-2147483648), 2147483647, 0, 0), .inl ((-2147483648), 2147483647, 0, 0), .inl ((-2147483648), 2147483647, 0, 0), .inl (32, 32, 0, 0)], [])], [(20, 30)], [20], (0, 0), [])
def u_X7_provisional_0 : List en_U := []
def x_X7_provisional_0 : en_Cx := ((en_KT, en_TY0, en_om0), en_FTX7, en_PTX7, [(106, false, 0, 0, 1, k_X7_isCell_0), (110, true, 13, 0, 0, k_X7_isThrown_0), (110, true, 13, 0, 0, k_X7_isThrown_1), (110, true, 13, 0, 0, k_X7_isThrown_2), (132, true, 13, 0, 1, k_X7_isNoPlayer_0)], en_LTX7, en_LLX7, en_TTX7, en_ACX7)
def m_X7_provisional_0 : en_Mx := (k_X7_provisional_0, 2, 10, (0, 1), tb_X7_provisional, [])
set_option maxRecDepth 100000 in
theorem ck_X7_provisional_0 : en_all x_X7_provisional_0 m_X7_provisional_0 u_X7_provisional_0 27 = true := by decide +kernel
theorem ct_X7_provisional_0 {l : Launch} (hl : l.stackTraces = false) {cx cy : Int32} : en_Ctr l vwCl en_TY0 (en_Pc cx cy) en_om0 (en_Of cx cy) en_KT yX7_provisional (Cond.code yX7_provisional cX7_provisional 10 (some .char) :: en_cw) (en_rm 2 (0, 0)) 0 k_X7_provisional_0 :=
  en_main (X := x_X7_provisional_0) (M := m_X7_provisional_0) en_Pc_ok en_f32_ok en_f64_ok hl (by decide +kernel) ⟨en_FTX7_ok, en_PTX7_ok, en_ac (⟨yX7_isCell, RX7, cX7_isCell, 2, (some .boolean), by decide, ct_X7_isCell_0 hl, fun h => Bool.noConfusion h, fun _ => gc_RX7_106s⟩) (en_ac (⟨yX7_isThrown, RX7, cX7_isThrown, 3, (some .boolean), by decide, ct_X7_isThrown_0 hl, fun _ => ⟨gc_RX7_110v, by decide, _, rfl, rfl⟩, fun h => Bool.noConfusion h⟩) (en_ac (⟨yX7_isThrown, RX7, cX7_isThrown, 3, (some .boolean), by decide, ct_X7_isThrown_1 hl, fun _ => ⟨gc_RX7_110v, by decide, _, rfl, rfl⟩, fun h => Bool.noConfusion h⟩) (en_ac (⟨yX7_isThrown, RX7, cX7_isThrown, 3, (some .boolean), by decide, ct_X7_isThrown_2 hl, fun _ => ⟨gc_RX7_110v, by decide, _, rfl, rfl⟩, fun h => Bool.noConfusion h⟩) (en_ac (⟨yX7_isNoPlayer, RX7, cX7_isNoPlayer, 2, (some .boolean), by decide, ct_X7_isNoPlayer_0 hl, fun _ => ⟨gc_RX7_132v, by decide, _, rfl, rfl⟩, fun h => Bool.noConfusion h⟩) en_an)))), en_LTX7_ok, en_LLX7_ok, en_TTX7_ok hl, ⟨cw256, cw147⟩, en_ACX7_ok⟩ de_X7_provisional ck_X7_provisional_0
def k_X7_spread_2 : en_K := (5, ([.inr (.inl 20), .inl (0, 29, 0, 0), .inl (0, 19, 0, 0), .inl (1, 1, 0, 0), .inl ((-2147483648), 144, 0, 0), .inl (0, 8, 0, 0)], [(0, 0, 25, 5, 0, 0), (5, 0, 0, 0, 0, 0)]), [([.inr (.inl 20), .inl (0, 29, 0, 0), .inl (0, 19, 0, 0), .inl (1, 1, 0, 0), .inl ((-2147483648), 144, 0, 0), .inl (1, 1, 0, 0)], [(5, 0, 0, 0, 0, 0), (6, 3, 0, 0, 0, 0)])], [], [20, 23, 24], (0, 0), [])
def u_X7_spread_2 : List en_U := []
def x_X7_spread_2 : en_Cx := ((en_KT, en_TY0, en_om0), en_FTX7, en_PTX7, [(175, true, 13, 0, 0, k_X7_kind_0)], en_LTX7, en_LLX7, en_TTX7, en_ACX7)
def m_X7_spread_2 : en_Mx := (k_X7_spread_2, 1, 7, (0, 0), tb_X7_spread, [])
set_option maxRecDepth 100000 in
theorem ck_X7_spread_2 : en_all x_X7_spread_2 m_X7_spread_2 u_X7_spread_2 25 = true := by decide +kernel
theorem ct_X7_spread_2 {l : Launch} (hl : l.stackTraces = false) {cx cy : Int32} : en_Ctr l vwCl en_TY0 (en_Pc cx cy) en_om0 (en_Of cx cy) en_KT yX7_spread (Cond.code yX7_spread cX7_spread 7 (some .int) :: en_cw) (en_rm 1 (0, 0)) 0 k_X7_spread_2 :=
  en_main (X := x_X7_spread_2) (M := m_X7_spread_2) en_Pc_ok en_f32_ok en_f64_ok hl (by decide +kernel) ⟨en_FTX7_ok, en_PTX7_ok, en_ac (⟨yX7_kind, RX7, cX7_kind, 3, (some .char), by decide, ct_X7_kind_0 hl, fun _ => ⟨gc_RX7_175v, by decide, _, rfl, rfl⟩, fun h => Bool.noConfusion h⟩) en_an, en_LTX7_ok, en_LLX7_ok, en_TTX7_ok hl, ⟨cw256, cw147⟩, en_ACX7_ok⟩ de_X7_spread ck_X7_spread_2
def tb_X7_drawn : en_Tb := [
  (23, [(0, .aload_n 0, 1), (1, .aload_n 0, 1), (2, .getfield 67, 3), (5, .ldc 179, 2), (7, .imul, 1), (8, .sipush 12345, 3), (11, .iadd, 1), (12, .putfield 67, 3), (15, .aload_n 0, 1), (16, .getfield 67, 3), (19, .bipush 16, 2), (21, .iushr, 1), (22, .ireturn, 1)])]
set_option maxRecDepth 40000 in
theorem de_X7_drawn : en_De tb_X7_drawn cX7_drawn := by
  unfold en_De
  decide +kernel
def k_X7_drawn_0 : en_K := (1, ([.inr (.inl 20)], [(5, 0, 0, 0, 0, 0)]), [([.inr (.inl 20), .inl (0, 65535, 0, 0)], [(5, 0, 0, 0, 0, 0)])], [(20, 18)], [20], (0, 0), [])
def u_X7_drawn_0 : List en_U := []
def x_X7_drawn_0 : en_Cx := ((en_KT, en_TY0, en_om0), en_FTX7, en_PTX7, [], en_LTX7, en_LLX7, en_TTX7, en_ACX7)
def m_X7_drawn_0 : en_Mx := (k_X7_drawn_0, 0, 1, (0, 0), tb_X7_drawn, [])
set_option maxRecDepth 100000 in
theorem ck_X7_drawn_0 : en_all x_X7_drawn_0 m_X7_drawn_0 u_X7_drawn_0 16 = true := by decide +kernel
theorem ct_X7_drawn_0 {l : Launch} (hl : l.stackTraces = false) {cx cy : Int32} : en_Ctr l vwCl en_TY0 (en_Pc cx cy) en_om0 (en_Of cx cy) en_KT yX7_drawn (Cond.code yX7_drawn cX7_drawn 1 (some .int) :: en_cw) (en_rm 0 (0, 0)) 0 k_X7_drawn_0 :=
  en_main (X := x_X7_drawn_0) (M := m_X7_drawn_0) en_Pc_ok en_f32_ok en_f64_ok hl (by decide +kernel) ⟨en_FTX7_ok, en_PTX7_ok, en_an, en_LTX7_ok, en_LLX7_ok, en_TTX7_ok hl, ⟨cw256, cw147⟩, en_ACX7_ok⟩ de_X7_drawn ck_X7_drawn_0
def tb_X7_drawn_ : en_Tb := [
  (21, [(0, .iload_n 1, 1), (1, .ifCond .ne 7, 3), (4, .iconst 0, 1), (5, .goto 15, 3), (8, .aload_n 0, 1), (9, .invokevirtual 180, 3), (12, .iconst 2, 1), (13, .iload_n 1, 1), (14, .imul, 1), (15, .iconst 1, 1), (16, .iadd, 1), (17, .irem, 1), (18, .iload_n 1, 1), (19, .isub, 1), (20, .ireturn, 1)])]
set_option maxRecDepth 40000 in
theorem de_X7_drawn_ : en_De tb_X7_drawn_ cX7_drawn_ := by
  unfold en_De
  decide +kernel
def k_X7_drawn__0 : en_K := (2, ([.inr (.inl 20), .inl (1, 1, 0, 0)], [(5, 0, 0, 0, 0, 0)]), [([.inr (.inl 20), .inl (1, 1, 0, 0), .inl ((-1), 1, 0, 0)], [(5, 0, 0, 0, 0, 0), (6, 1, 0, 0, 0, 0)])], [(20, 18)], [20], (0, 0), [])
def u_X7_drawn__0 : List en_U := []
def x_X7_drawn__0 : en_Cx := ((en_KT, en_TY0, en_om0), en_FTX7, en_PTX7, [(180, true, 13, 0, 0, k_X7_drawn_0)], en_LTX7, en_LLX7, en_TTX7, en_ACX7)
def m_X7_drawn__0 : en_Mx := (k_X7_drawn__0, 1, 2, (0, 0), tb_X7_drawn_, [])
set_option maxRecDepth 100000 in
theorem ck_X7_drawn__0 : en_all x_X7_drawn__0 m_X7_drawn__0 u_X7_drawn__0 16 = true := by decide +kernel
theorem ct_X7_drawn__0 {l : Launch} (hl : l.stackTraces = false) {cx cy : Int32} : en_Ctr l vwCl en_TY0 (en_Pc cx cy) en_om0 (en_Of cx cy) en_KT yX7_drawn_ (Cond.code yX7_drawn_ cX7_drawn_ 2 (some .int) :: en_cw) (en_rm 1 (0, 0)) 0 k_X7_drawn__0 :=
  en_main (X := x_X7_drawn__0) (M := m_X7_drawn__0) en_Pc_ok en_f32_ok en_f64_ok hl (by decide +kernel) ⟨en_FTX7_ok, en_PTX7_ok, en_ac (⟨yX7_drawn, RX7, cX7_drawn, 1, (some .int), by decide, ct_X7_drawn_0 hl, fun _ => ⟨gc_RX7_180v, by decide, _, rfl, rfl⟩, fun h => Bool.noConfusion h⟩) en_an, en_LTX7_ok, en_LLX7_ok, en_TTX7_ok hl, ⟨cw256, cw147⟩, en_ACX7_ok⟩ de_X7_drawn_ ck_X7_drawn__0
def k_X7_isIn_48 : en_K := (3, ([.inl ((-1), 30, 0, 0), .inl (0, 0, 0, 0), .inl (29, 29, 0, 0)], [(5, 0, 0, 0, 0, 0)]), [([.inl (30, 30, 0, 0), .inl (0, 0, 0, 0), .inl (29, 29, 0, 0), .inl (0, 0, 0, 0)], [(5, 0, 0, 0, 0, 0)]), ([.inl ((-1), (-1), 0, 0), .inl (0, 0, 0, 0), .inl (29, 29, 0, 0), .inl (0, 0, 0, 0)], [(5, 0, 0, 0, 0, 0)]), ([.inl (0, 29, 0, 0), .inl (0, 0, 0, 0), .inl (29, 29, 0, 0), .inl (1, 1, 0, 0)], [(5, 0, 0, 0, 0, 0)])], [], [], (0, 0), [])
def u_X7_isIn_48 : List en_U := []
def x_X7_isIn_48 : en_Cx := ((en_KT, en_TY0, en_om0), en_FTX7, en_PTX7, [], en_LTX7, en_LLX7, en_TTX7, en_ACX7)
def m_X7_isIn_48 : en_Mx := (k_X7_isIn_48, 0, 3, (0, 2), tb_X7_isIn, [])
set_option maxRecDepth 100000 in
theorem ck_X7_isIn_48 : en_all x_X7_isIn_48 m_X7_isIn_48 u_X7_isIn_48 12 = true := by decide +kernel
theorem ct_X7_isIn_48 {l : Launch} (hl : l.stackTraces = false) {cx cy : Int32} : en_Ctr l vwCl en_TY0 (en_Pc cx cy) en_om0 (en_Of cx cy) en_KT yX7_isIn (Cond.code yX7_isIn cX7_isIn 3 (some .boolean) :: en_cw) (en_rm 0 (0, 0)) 0 k_X7_isIn_48 :=
  en_main (X := x_X7_isIn_48) (M := m_X7_isIn_48) en_Pc_ok en_f32_ok en_f64_ok hl (by decide +kernel) ⟨en_FTX7_ok, en_PTX7_ok, en_an, en_LTX7_ok, en_LLX7_ok, en_TTX7_ok hl, ⟨cw256, cw147⟩, en_ACX7_ok⟩ de_X7_isIn ck_X7_isIn_48
def k_X7_isIn_49 : en_K := (3, ([.inl ((-1), 20, 0, 0), .inl (0, 0, 0, 0), .inl (19, 19, 0, 0)], [(5, 0, 0, 0, 0, 0)]), [([.inl (20, 20, 0, 0), .inl (0, 0, 0, 0), .inl (19, 19, 0, 0), .inl (0, 0, 0, 0)], [(5, 0, 0, 0, 0, 0)]), ([.inl ((-1), (-1), 0, 0), .inl (0, 0, 0, 0), .inl (19, 19, 0, 0), .inl (0, 0, 0, 0)], [(5, 0, 0, 0, 0, 0)]), ([.inl (0, 19, 0, 0), .inl (0, 0, 0, 0), .inl (19, 19, 0, 0), .inl (1, 1, 0, 0)], [(5, 0, 0, 0, 0, 0)])], [], [], (0, 0), [])
def u_X7_isIn_49 : List en_U := []
def x_X7_isIn_49 : en_Cx := ((en_KT, en_TY0, en_om0), en_FTX7, en_PTX7, [], en_LTX7, en_LLX7, en_TTX7, en_ACX7)
def m_X7_isIn_49 : en_Mx := (k_X7_isIn_49, 0, 3, (0, 2), tb_X7_isIn, [])
set_option maxRecDepth 100000 in
theorem ck_X7_isIn_49 : en_all x_X7_isIn_49 m_X7_isIn_49 u_X7_isIn_49 12 = true := by decide +kernel
theorem ct_X7_isIn_49 {l : Launch} (hl : l.stackTraces = false) {cx cy : Int32} : en_Ctr l vwCl en_TY0 (en_Pc cx cy) en_om0 (en_Of cx cy) en_KT yX7_isIn (Cond.code yX7_isIn cX7_isIn 3 (some .boolean) :: en_cw) (en_rm 0 (0, 0)) 0 k_X7_isIn_49 :=
  en_main (X := x_X7_isIn_49) (M := m_X7_isIn_49) en_Pc_ok en_f32_ok en_f64_ok hl (by decide +kernel) ⟨en_FTX7_ok, en_PTX7_ok, en_an, en_LTX7_ok, en_LLX7_ok, en_TTX7_ok hl, ⟨cw256, cw147⟩, en_ACX7_ok⟩ de_X7_isIn ck_X7_isIn_49
def k_X7_isCell_8 : en_K := (2, ([.inl ((-1), 30, 0, 0), .inl ((-1), 20, 0, 0)], [(5, 0, 0, 0, 0, 0)]), [([.inl (0, 29, 0, 0), .inl ((-1), (-1), 0, 0), .inl (0, 0, 0, 0)], [(5, 0, 0, 0, 0, 0)]), ([.inl (0, 29, 0, 0), .inl (20, 20, 0, 0), .inl (0, 0, 0, 0)], [(5, 0, 0, 0, 0, 0)]), ([.inl ((-1), (-1), 0, 0), .inl ((-1), 20, 0, 0), .inl (0, 0, 0, 0)], [(5, 0, 0, 0, 0, 0)]), ([.inl (30, 30, 0, 0), .inl ((-1), 20, 0, 0), .inl (0, 0, 0, 0)], [(5, 0, 0, 0, 0, 0)]), ([.inl (0, 29, 0, 0), .inl (0, 19, 0, 0), .inl (1, 1, 0, 0)], [(5, 0, 0, 0, 0, 0)])], [], [], (0, 0), [])
def u_X7_isCell_8 : List en_U := []
def x_X7_isCell_8 : en_Cx := ((en_KT, en_TY0, en_om0), en_FTX7, en_PTX7, [(82, false, 0, 0, 0, k_X7_isIn_49), (82, false, 0, 0, 0, k_X7_isIn_48)], en_LTX7, en_LLX7, en_TTX7, en_ACX7)
def m_X7_isCell_8 : en_Mx := (k_X7_isCell_8, 1, 2, (0, 2), tb_X7_isCell, [])
set_option maxRecDepth 100000 in
theorem ck_X7_isCell_8 : en_all x_X7_isCell_8 m_X7_isCell_8 u_X7_isCell_8 16 = true := by decide +kernel
theorem ct_X7_isCell_8 {l : Launch} (hl : l.stackTraces = false) {cx cy : Int32} : en_Ctr l vwCl en_TY0 (en_Pc cx cy) en_om0 (en_Of cx cy) en_KT yX7_isCell (Cond.code yX7_isCell cX7_isCell 2 (some .boolean) :: en_cw) (en_rm 1 (0, 0)) 0 k_X7_isCell_8 :=
  en_main (X := x_X7_isCell_8) (M := m_X7_isCell_8) en_Pc_ok en_f32_ok en_f64_ok hl (by decide +kernel) ⟨en_FTX7_ok, en_PTX7_ok, en_ac (⟨yX7_isIn, RX7, cX7_isIn, 3, (some .boolean), by decide, ct_X7_isIn_49 hl, fun h => Bool.noConfusion h, fun _ => gc_RX7_82s⟩) (en_ac (⟨yX7_isIn, RX7, cX7_isIn, 3, (some .boolean), by decide, ct_X7_isIn_48 hl, fun h => Bool.noConfusion h, fun _ => gc_RX7_82s⟩) en_an), en_LTX7_ok, en_LLX7_ok, en_TTX7_ok hl, ⟨cw256, cw147⟩, en_ACX7_ok⟩ de_X7_isCell ck_X7_isCell_8
def k_X7_isIn_50 : en_K := (3, ([.inl (0, 29, 0, 0), .inl (0, 0, 0, 0), .inl (29, 29, 0, 0)], [(5, 0, 0, 0, 0, 0)]), [([.inl (0, 29, 0, 0), .inl (0, 0, 0, 0), .inl (29, 29, 0, 0), .inl (1, 1, 0, 0)], [(5, 0, 0, 0, 0, 0)])], [], [], (0, 0), [])
def u_X7_isIn_50 : List en_U := []
def x_X7_isIn_50 : en_Cx := ((en_KT, en_TY0, en_om0), en_FTX7, en_PTX7, [], en_LTX7, en_LLX7, en_TTX7, en_ACX7)
def m_X7_isIn_50 : en_Mx := (k_X7_isIn_50, 0, 3, (0, 2), tb_X7_isIn, [])
set_option maxRecDepth 100000 in
theorem ck_X7_isIn_50 : en_all x_X7_isIn_50 m_X7_isIn_50 u_X7_isIn_50 12 = true := by decide +kernel
theorem ct_X7_isIn_50 {l : Launch} (hl : l.stackTraces = false) {cx cy : Int32} : en_Ctr l vwCl en_TY0 (en_Pc cx cy) en_om0 (en_Of cx cy) en_KT yX7_isIn (Cond.code yX7_isIn cX7_isIn 3 (some .boolean) :: en_cw) (en_rm 0 (0, 0)) 0 k_X7_isIn_50 :=
  en_main (X := x_X7_isIn_50) (M := m_X7_isIn_50) en_Pc_ok en_f32_ok en_f64_ok hl (by decide +kernel) ⟨en_FTX7_ok, en_PTX7_ok, en_an, en_LTX7_ok, en_LLX7_ok, en_TTX7_ok hl, ⟨cw256, cw147⟩, en_ACX7_ok⟩ de_X7_isIn ck_X7_isIn_50
def k_X7_isIn_51 : en_K := (3, ([.inl (0, 19, 0, 0), .inl (0, 0, 0, 0), .inl (19, 19, 0, 0)], [(5, 0, 0, 0, 0, 0)]), [([.inl (0, 19, 0, 0), .inl (0, 0, 0, 0), .inl (19, 19, 0, 0), .inl (1, 1, 0, 0)], [(5, 0, 0, 0, 0, 0)])], [], [], (0, 0), [])
def u_X7_isIn_51 : List en_U := []
def x_X7_isIn_51 : en_Cx := ((en_KT, en_TY0, en_om0), en_FTX7, en_PTX7, [], en_LTX7, en_LLX7, en_TTX7, en_ACX7)
def m_X7_isIn_51 : en_Mx := (k_X7_isIn_51, 0, 3, (0, 2), tb_X7_isIn, [])
set_option maxRecDepth 100000 in
theorem ck_X7_isIn_51 : en_all x_X7_isIn_51 m_X7_isIn_51 u_X7_isIn_51 12 = true := by decide +kernel
theorem ct_X7_isIn_51 {l : Launch} (hl : l.stackTraces = false) {cx cy : Int32} : en_Ctr l vwCl en_TY0 (en_Pc cx cy) en_om0 (en_Of cx cy) en_KT yX7_isIn (Cond.code yX7_isIn cX7_isIn 3 (some .boolean) :: en_cw) (en_rm 0 (0, 0)) 0 k_X7_isIn_51 :=
  en_main (X := x_X7_isIn_51) (M := m_X7_isIn_51) en_Pc_ok en_f32_ok en_f64_ok hl (by decide +kernel) ⟨en_FTX7_ok, en_PTX7_ok, en_an, en_LTX7_ok, en_LLX7_ok, en_TTX7_ok hl, ⟨cw256, cw147⟩, en_ACX7_ok⟩ de_X7_isIn ck_X7_isIn_51
def k_X7_isCell_9 : en_K := (2, ([.inl (0, 29, 0, 0), .inl (0, 19, 0, 0)], [(5, 0, 0, 0, 0, 0)]), [([.inl (0, 29, 0, 0), .inl (0, 19, 0, 0), .inl (1, 1, 0, 0)], [(5, 0, 0, 0, 0, 0)])], [], [], (0, 0), [])
def u_X7_isCell_9 : List en_U := []
def x_X7_isCell_9 : en_Cx := ((en_KT, en_TY0, en_om0), en_FTX7, en_PTX7, [(82, false, 0, 0, 0, k_X7_isIn_51), (82, false, 0, 0, 0, k_X7_isIn_50)], en_LTX7, en_LLX7, en_TTX7, en_ACX7)
def m_X7_isCell_9 : en_Mx := (k_X7_isCell_9, 1, 2, (0, 2), tb_X7_isCell, [])
set_option maxRecDepth 100000 in
theorem ck_X7_isCell_9 : en_all x_X7_isCell_9 m_X7_isCell_9 u_X7_isCell_9 16 = true := by decide +kernel
theorem ct_X7_isCell_9 {l : Launch} (hl : l.stackTraces = false) {cx cy : Int32} : en_Ctr l vwCl en_TY0 (en_Pc cx cy) en_om0 (en_Of cx cy) en_KT yX7_isCell (Cond.code yX7_isCell cX7_isCell 2 (some .boolean) :: en_cw) (en_rm 1 (0, 0)) 0 k_X7_isCell_9 :=
  en_main (X := x_X7_isCell_9) (M := m_X7_isCell_9) en_Pc_ok en_f32_ok en_f64_ok hl (by decide +kernel) ⟨en_FTX7_ok, en_PTX7_ok, en_ac (⟨yX7_isIn, RX7, cX7_isIn, 3, (some .boolean), by decide, ct_X7_isIn_51 hl, fun h => Bool.noConfusion h, fun _ => gc_RX7_82s⟩) (en_ac (⟨yX7_isIn, RX7, cX7_isIn, 3, (some .boolean), by decide, ct_X7_isIn_50 hl, fun h => Bool.noConfusion h, fun _ => gc_RX7_82s⟩) en_an), en_LTX7_ok, en_LLX7_ok, en_TTX7_ok hl, ⟨cw256, cw147⟩, en_ACX7_ok⟩ de_X7_isCell ck_X7_isCell_9
def k_X7_isIn_52 : en_K := (3, ([.inl (30, 30, 0, 0), .inl (0, 0, 0, 0), .inl (29, 29, 0, 0)], [(5, 0, 0, 0, 0, 0)]), [([.inl (30, 30, 0, 0), .inl (0, 0, 0, 0), .inl (29, 29, 0, 0), .inl (0, 0, 0, 0)], [(5, 0, 0, 0, 0, 0)])], [], [], (0, 0), [])
def u_X7_isIn_52 : List en_U := []
def x_X7_isIn_52 : en_Cx := ((en_KT, en_TY0, en_om0), en_FTX7, en_PTX7, [], en_LTX7, en_LLX7, en_TTX7, en_ACX7)
def m_X7_isIn_52 : en_Mx := (k_X7_isIn_52, 0, 3, (0, 2), tb_X7_isIn, [])
set_option maxRecDepth 100000 in
theorem ck_X7_isIn_52 : en_all x_X7_isIn_52 m_X7_isIn_52 u_X7_isIn_52 11 = true := by decide +kernel
theorem ct_X7_isIn_52 {l : Launch} (hl : l.stackTraces = false) {cx cy : Int32} : en_Ctr l vwCl en_TY0 (en_Pc cx cy) en_om0 (en_Of cx cy) en_KT yX7_isIn (Cond.code yX7_isIn cX7_isIn 3 (some .boolean) :: en_cw) (en_rm 0 (0, 0)) 0 k_X7_isIn_52 :=
  en_main (X := x_X7_isIn_52) (M := m_X7_isIn_52) en_Pc_ok en_f32_ok en_f64_ok hl (by decide +kernel) ⟨en_FTX7_ok, en_PTX7_ok, en_an, en_LTX7_ok, en_LLX7_ok, en_TTX7_ok hl, ⟨cw256, cw147⟩, en_ACX7_ok⟩ de_X7_isIn ck_X7_isIn_52
def k_X7_isCell_10 : en_K := (2, ([.inl (30, 30, 0, 0), .inl ((-1), 20, 0, 0)], [(5, 0, 0, 0, 0, 0)]), [([.inl (30, 30, 0, 0), .inl ((-1), 20, 0, 0), .inl (0, 0, 0, 0)], [(5, 0, 0, 0, 0, 0)])], [], [], (0, 0), [])
def u_X7_isCell_10 : List en_U := []
def x_X7_isCell_10 : en_Cx := ((en_KT, en_TY0, en_om0), en_FTX7, en_PTX7, [(82, false, 0, 0, 0, k_X7_isIn_52)], en_LTX7, en_LLX7, en_TTX7, en_ACX7)
def m_X7_isCell_10 : en_Mx := (k_X7_isCell_10, 1, 2, (0, 2), tb_X7_isCell, [])
set_option maxRecDepth 100000 in
theorem ck_X7_isCell_10 : en_all x_X7_isCell_10 m_X7_isCell_10 u_X7_isCell_10 10 = true := by decide +kernel
theorem ct_X7_isCell_10 {l : Launch} (hl : l.stackTraces = false) {cx cy : Int32} : en_Ctr l vwCl en_TY0 (en_Pc cx cy) en_om0 (en_Of cx cy) en_KT yX7_isCell (Cond.code yX7_isCell cX7_isCell 2 (some .boolean) :: en_cw) (en_rm 1 (0, 0)) 0 k_X7_isCell_10 :=
  en_main (X := x_X7_isCell_10) (M := m_X7_isCell_10) en_Pc_ok en_f32_ok en_f64_ok hl (by decide +kernel) ⟨en_FTX7_ok, en_PTX7_ok, en_ac (⟨yX7_isIn, RX7, cX7_isIn, 3, (some .boolean), by decide, ct_X7_isIn_52 hl, fun h => Bool.noConfusion h, fun _ => gc_RX7_82s⟩) en_an, en_LTX7_ok, en_LLX7_ok, en_TTX7_ok hl, ⟨cw256, cw147⟩, en_ACX7_ok⟩ de_X7_isCell ck_X7_isCell_10
def k_X7_isIn_53 : en_K := (3, ([.inl ((-1), (-1), 0, 0), .inl (0, 0, 0, 0), .inl (29, 29, 0, 0)], [(5, 0, 0, 0, 0, 0)]), [([.inl ((-1), (-1), 0, 0), .inl (0, 0, 0, 0), .inl (29, 29, 0, 0), .inl (0, 0, 0, 0)], [(5, 0, 0, 0, 0, 0)])], [], [], (0, 0), [])
def u_X7_isIn_53 : List en_U := []
def x_X7_isIn_53 : en_Cx := ((en_KT, en_TY0, en_om0), en_FTX7, en_PTX7, [], en_LTX7, en_LLX7, en_TTX7, en_ACX7)
def m_X7_isIn_53 : en_Mx := (k_X7_isIn_53, 0, 3, (0, 2), tb_X7_isIn, [])
set_option maxRecDepth 100000 in
theorem ck_X7_isIn_53 : en_all x_X7_isIn_53 m_X7_isIn_53 u_X7_isIn_53 8 = true := by decide +kernel
theorem ct_X7_isIn_53 {l : Launch} (hl : l.stackTraces = false) {cx cy : Int32} : en_Ctr l vwCl en_TY0 (en_Pc cx cy) en_om0 (en_Of cx cy) en_KT yX7_isIn (Cond.code yX7_isIn cX7_isIn 3 (some .boolean) :: en_cw) (en_rm 0 (0, 0)) 0 k_X7_isIn_53 :=
  en_main (X := x_X7_isIn_53) (M := m_X7_isIn_53) en_Pc_ok en_f32_ok en_f64_ok hl (by decide +kernel) ⟨en_FTX7_ok, en_PTX7_ok, en_an, en_LTX7_ok, en_LLX7_ok, en_TTX7_ok hl, ⟨cw256, cw147⟩, en_ACX7_ok⟩ de_X7_isIn ck_X7_isIn_53
