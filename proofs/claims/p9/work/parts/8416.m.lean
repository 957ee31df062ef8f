def tb_X7_state : en_Tb := [
  (23, [(0, .aload_n 0, 1), (1, .iload_n 1, 1), (2, .invokevirtual 245, 3), (5, .ifCond .eq 8, 3), (8, .bipush 32, 2), (10, .goto 12, 3), (13, .aload_n 0, 1), (14, .getfield 23, 3), (17, .iload_n 1, 1), (18, .aaload, 1), (19, .iconst 0, 1), (20, .iaload, 1), (21, .i2c, 1), (22, .ireturn, 1)])]
set_option maxRecDepth 40000 in
theorem de_X7_state : en_De tb_X7_state cX7_state := by
  unfold en_De
  decide +kernel
def k_X7_state_0 : en_K := (2, ([.inr (.inl 20), .inl ((-2147483648), 2147483647, 0, 0), .inl (0, 0, 0, 0)], [(0, 0, 22, 2, 0, 0)]), [([.inr (.inl 20), .inl ((-2147483648), 2147483647, 0, 0), .inl (0, 65535, 0, 0)], [])], [(20, 30)], [20, 26, 27], (0, 0), [])
def u_X7_state_0 : List en_U := []
def x_X7_state_0 : en_Cx := ((en_KT0, en_TY0, en_om0), en_FTX7, en_PTX7, [(245, true, 13, 0, 2, k_X7_isNone_0)], en_LTX7, en_LLX7, en_TTX7)
def m_X7_state_0 : en_Mx := (k_X7_state_0, 3, 2, (0, 1), tb_X7_state, [])
set_option maxRecDepth 100000 in
theorem ck_X7_state_0 : en_all x_X7_state_0 m_X7_state_0 u_X7_state_0 15 = true := by decide +kernel
theorem ct_X7_state_0 {l : Launch} (hl : l.stackTraces = false) {cx cy : Int32} : en_Ctr l vwCl en_TY0 (en_Pc cx cy) en_om0 (en_Oc cx cy) en_KT0 yX7_state (Cond.code yX7_state cX7_state 2 (some .char) :: en_cw) (en_rm 3 (0, 0)) 0 k_X7_state_0 :=
  en_main (X := x_X7_state_0) (M := m_X7_state_0) en_Pc_ok en_f32_ok en_f64_ok hl (by decide +kernel) ⟨en_FTX7_ok, en_PTX7_ok, en_ac (⟨yX7_isNone, RX7, cX7_isNone, 2, (some .boolean), by decide, ct_X7_isNone_0 hl, fun _ => ⟨gc_RX7_245v, by decide, _, rfl, rfl⟩, fun h => Bool.noConfusion h⟩) en_an, en_LTX7_ok, en_LLX7_ok, en_TTX7_ok hl, cw256, cw147⟩ de_X7_state ck_X7_state_0
def k_X7_state_1 : en_K := (2, ([.inr (.inl 20), .inl ((-2147483648), 2147483647, 0, 0), .inl (1, 1, 0, 0)], [(0, 0, 22, 2, 0, 0), (5, 0, 0, 0, 0, 0)]), [([.inr (.inl 20), .inl ((-2147483648), 2147483647, 0, 0), .inl (0, 65535, 0, 0), .inl (1, 1, 0, 0)], [(0, 0, 22, 3, 0, 0), (5, 0, 0, 0, 0, 0)])], [(20, 30)], [20, 26, 27], (0, 0), [])
def u_X7_state_1 : List en_U := []
def x_X7_state_1 : en_Cx := ((en_KT0, en_TY0, en_om0), en_FTX7, en_PTX7, [(245, true, 13, 0, 2, k_X7_isNone_1)], en_LTX7, en_LLX7, en_TTX7)
def m_X7_state_1 : en_Mx := (k_X7_state_1, 3, 2, (0, 1), tb_X7_state, [])
set_option maxRecDepth 100000 in
theorem ck_X7_state_1 : en_all x_X7_state_1 m_X7_state_1 u_X7_state_1 15 = true := by decide +kernel
theorem ct_X7_state_1 {l : Launch} (hl : l.stackTraces = false) {cx cy : Int32} : en_Ctr l vwCl en_TY0 (en_Pc cx cy) en_om0 (en_Oc cx cy) en_KT0 yX7_state (Cond.code yX7_state cX7_state 2 (some .char) :: en_cw) (en_rm 3 (0, 0)) 0 k_X7_state_1 :=
  en_main (X := x_X7_state_1) (M := m_X7_state_1) en_Pc_ok en_f32_ok en_f64_ok hl (by decide +kernel) ⟨en_FTX7_ok, en_PTX7_ok, en_ac (⟨yX7_isNone, RX7, cX7_isNone, 2, (some .boolean), by decide, ct_X7_isNone_1 hl, fun _ => ⟨gc_RX7_245v, by decide, _, rfl, rfl⟩, fun h => Bool.noConfusion h⟩) en_an, en_LTX7_ok, en_LLX7_ok, en_TTX7_ok hl, cw256, cw147⟩ de_X7_state ck_X7_state_1
def tb_X7_stroke : en_Tb := [
  (30, [(0, .aload_n 0, 1), (1, .aload_n 0, 1), (2, .iload_n 1, 1), (3, .invokevirtual 132, 3), (6, .ifCond .ne 11, 3), (9, .iload_n 2, 1), (10, .iload_n 3, 1), (11, .invokestatic 106, 3), (14, .ifCond .ne 7, 3), (17, .iconst 1, 1), (18, .goto 4, 3), (21, .iconst 0, 1), (22, .iconst 1, 1), (23, .invokevirtual 110, 3), (26, .ifCond .ne 50, 3), (29, .aload_n 0, 1)]), 
  (60, [(30, .aload_n 0, 1), (31, .getfield 135, 3), (34, .ifCond .eq 10, 3), (37, .aload_n 0, 1), (38, .getfield 145, 3), (41, .ifCond .eq 7, 3), (44, .iconst 1, 1), (45, .goto 4, 3), (48, .iconst 0, 1), (49, .iconst 2, 1), (50, .invokevirtual 110, 3), (53, .ifCond .ne 23, 3), (56, .aload_n 0, 1), (57, .aload_n 0, 1), (58, .aload_n 0, 1), (59, .getfield 23, 3)]), 
  (88, [(62, .iload_n 1, 1), (63, .aaload, 1), (64, .iload_n 2, 1), (65, .iload_n 3, 1), (66, .invokevirtual 190, 3), (69, .iconst 3, 1), (70, .invokevirtual 110, 3), (73, .ifCond .eq 6, 3), (76, .bipush 32, 2), (78, .ireturn, 1), (79, .aload_n 0, 1), (80, .getfield 23, 3), (83, .iload_n 1, 1), (84, .aaload, 1), (85, .astore 4, 2), (87, .aload 4, 2)]), 
  (118, [(89, .iconst 0, 1), (90, .aload_n 0, 1), (91, .getfield 26, 3), (94, .iconst 0, 1), (95, .bipush 24, 2), (97, .invokestatic 118, 3), (100, .aload_n 0, 1), (101, .aload_n 0, 1), (102, .invokevirtual 172, 3), (105, .iload_n 1, 1), (106, .if_icmp .ne 7, 3), (109, .iconst (-1), 1), (110, .goto 4, 3), (113, .iload_n 1, 1), (114, .putfield 160, 3), (117, .aload 4, 2)]), 
  (147, [(119, .bipush 13, 2), (121, .iaload, 1), (122, .iconst 1, 1), (123, .if_icmp .ne 26, 3), (126, .aload_n 0, 1), (127, .getfield 142, 3), (130, .bipush 109, 2), (132, .if_icmp .ne 17, 3), (135, .aload_n 0, 1), (136, .iconst (-1), 1), (137, .putfield 160, 3), (140, .aload 4, 2), (142, .iconst 0, 1), (143, .bipush 117, 2), (145, .iastore, 1), (146, .bipush 117, 2)]), 
  (172, [(148, .ireturn, 1), (149, .aload 4, 2), (151, .bipush 13, 2), (153, .iaload, 1), (154, .iconst 1, 1), (155, .if_icmp .ne 135, 3), (158, .iconst 4, 1), (159, .aload_n 0, 1), (160, .aload 4, 2), (162, .iconst 1, 1), (163, .iaload, 1), (164, .aload 4, 2), (166, .iconst 2, 1), (167, .iaload, 1), (168, .invokevirtual 166, 3), (171, .imul, 1)]), 
  (202, [(172, .aload_n 0, 1), (173, .aload 4, 2), (175, .bipush 14, 2), (177, .iaload, 1), (178, .aload 4, 2), (180, .bipush 15, 2), (182, .iaload, 1), (183, .invokevirtual 166, 3), (186, .if_icmp .ge 7, 3), (189, .iconst 1, 1), (190, .goto 4, 3), (193, .iconst 0, 1), (194, .istore 5, 2), (196, .iload 5, 2), (198, .ifCond .eq 77, 3), (201, .aload 4, 2)]), 
  (228, [(203, .bipush 16, 2), (205, .iconst 1, 1), (206, .iastore, 1), (207, .aload 4, 2), (209, .bipush 17, 2), (211, .aload 4, 2), (213, .bipush 14, 2), (215, .iaload, 1), (216, .iastore, 1), (217, .aload 4, 2), (219, .bipush 18, 2), (221, .aload 4, 2), (223, .bipush 15, 2), (225, .iaload, 1), (226, .iastore, 1), (227, .aload 4, 2)]), 
  (254, [(229, .bipush 19, 2), (231, .aload 4, 2), (233, .iconst 4, 1), (234, .iaload, 1), (235, .iastore, 1), (236, .aload 4, 2), (238, .bipush 20, 2), (240, .aload 4, 2), (242, .iconst 5, 1), (243, .iaload, 1), (244, .iastore, 1), (245, .aload 4, 2), (247, .bipush 21, 2), (249, .aload 4, 2), (251, .bipush 6, 2), (253, .iaload, 1)]), 
  (280, [(254, .iastore, 1), (255, .aload 4, 2), (257, .bipush 22, 2), (259, .aload 4, 2), (261, .bipush 7, 2), (263, .iaload, 1), (264, .iastore, 1), (265, .aload 4, 2), (267, .bipush 23, 2), (269, .aload 4, 2), (271, .bipush 8, 2), (273, .iaload, 1), (274, .iastore, 1), (275, .aload 4, 2), (277, .bipush 8, 2), (279, .dup2, 1)]), 
  (300, [(280, .iaload, 1), (281, .iconst 2, 1), (282, .iadd, 1), (283, .iastore, 1), (284, .aload 4, 2), (286, .bipush 13, 2), (288, .iconst 0, 1), (289, .iastore, 1), (290, .aload_n 0, 1), (291, .aload 4, 2), (293, .iconst 1, 1), (294, .iaload, 1), (295, .aload 4, 2), (297, .iconst 2, 1), (298, .iaload, 1), (299, .aload 4, 2)]), 
  (323, [(301, .iconst 3, 1), (302, .iaload, 1), (303, .iconst 1, 1), (304, .if_icmp .ne 7, 3), (307, .iconst 1, 1), (308, .goto 4, 3), (311, .iconst 0, 1), (312, .iload_n 2, 1), (313, .iload_n 3, 1), (314, .aload 4, 2), (316, .iconst 1, 1), (317, .iaload, 1), (318, .aload 4, 2), (320, .iconst 2, 1), (321, .iaload, 1), (322, .invokestatic 102, 3)]), 
  (349, [(325, .invokevirtual 194, 3), (328, .istore 5, 2), (330, .aload 4, 2), (332, .iconst 4, 1), (333, .aload 4, 2), (335, .iconst 1, 1), (336, .iaload, 1), (337, .iastore, 1), (338, .aload 4, 2), (340, .iconst 5, 1), (341, .aload 4, 2), (343, .iconst 2, 1), (344, .iaload, 1), (345, .iastore, 1), (346, .aload 4, 2), (348, .bipush 6, 2)]), 
  (372, [(350, .aload 4, 2), (352, .iconst 3, 1), (353, .iaload, 1), (354, .iastore, 1), (355, .aload 4, 2), (357, .iconst 3, 1), (358, .iconst 0, 1), (359, .iastore, 1), (360, .aload 4, 2), (362, .bipush 9, 2), (364, .iconst 1, 1), (365, .iastore, 1), (366, .aload 4, 2), (368, .bipush 7, 2), (370, .dup2, 1), (371, .iaload, 1)]), 
  (393, [(372, .iconst 1, 1), (373, .iadd, 1), (374, .iastore, 1), (375, .aload 4, 2), (377, .iconst 1, 1), (378, .iload_n 2, 1), (379, .aload_n 0, 1), (380, .iload 5, 2), (382, .invokevirtual 198, 3), (385, .iadd, 1), (386, .iastore, 1), (387, .aload 4, 2), (389, .iconst 2, 1), (390, .iload_n 3, 1), (391, .aload_n 0, 1), (392, .iload 5, 2)]), 
  (418, [(394, .invokevirtual 198, 3), (397, .iadd, 1), (398, .iastore, 1), (399, .aload 4, 2), (401, .iconst 0, 1), (402, .aload_n 0, 1), (403, .aload 4, 2), (405, .iconst 1, 1), (406, .iaload, 1), (407, .aload 4, 2), (409, .iconst 2, 1), (410, .iaload, 1), (411, .invokevirtual 201, 3), (414, .iastore, 1), (415, .aload 4, 2), (417, .iconst 0, 1)]), 
  (421, [(418, .iaload, 1), (419, .i2c, 1), (420, .ireturn, 1)])]
set_option maxRecDepth 40000 in
theorem de_X7_stroke : en_De tb_X7_stroke cX7_stroke := by
  unfold en_De
  decide +kernel
def k_X7_stroke_0 : en_K := (4, ([.inr (.inl 20), .inl ((-2147483648), 2147483647, 0, 0), .inl ((-2147483648), 2147483647, 0, 0), .inl ((-2147483648), 2147483647, 0, 0), .inl (0, 0, 0, 0)], [(0, 0, 22, 4, 0, 0)]), [([.inr (.inl 20), .inl ((-2147483648), 2147483647, 0, 0), .inl ((-2147483648), 2147483647, 0, 0), .inl ((-2147483648), 2147483647, 0, 0), .inl (32, 32, 0, 0), .inl (0, 0, 0, 0)], [(0, 0, 22, 5, 0, 0)])], [(20, 30)], [20], (0, 0), [])
def u_X7_stroke_0 : List en_U := []
def x_X7_stroke_0 : en_Cx := ((en_KT0, en_TY0, en_om0), en_FTX7, en_PTX7, [(106, false, 0, 0, 1, k_X7_isCell_0), (110, true, 13, 0, 0, k_X7_isThrown_0), (110, true, 13, 0, 0, k_X7_isThrown_1), (110, true, 13, 0, 0, k_X7_isThrown_2), (132, true, 13, 0, 1, k_X7_isNoPlayer_0)], en_LTX7, en_LLX7, en_TTX7)
def m_X7_stroke_0 : en_Mx := (k_X7_stroke_0, 2, 6, (0, 1), tb_X7_stroke, [])
set_option maxRecDepth 100000 in
theorem ck_X7_stroke_0 : en_all x_X7_stroke_0 m_X7_stroke_0 u_X7_stroke_0 27 = true := by decide +kernel
theorem ct_X7_stroke_0 {l : Launch} (hl : l.stackTraces = false) {cx cy : Int32} : en_Ctr l vwCl en_TY0 (en_Pc cx cy) en_om0 (en_Oc cx cy) en_KT0 yX7_stroke (Cond.code yX7_stroke cX7_stroke 6 (some .char) :: en_cw) (en_rm 2 (0, 0)) 0 k_X7_stroke_0 :=
  en_main (X := x_X7_stroke_0) (M := m_X7_stroke_0) en_Pc_ok en_f32_ok en_f64_ok hl (by decide +kernel) ⟨en_FTX7_ok, en_PTX7_ok, en_ac (⟨yX7_isCell, RX7, cX7_isCell, 2, (some .boolean), by decide, ct_X7_isCell_0 hl, fun h => Bool.noConfusion h, fun _ => gc_RX7_106s⟩) (en_ac (⟨yX7_isThrown, RX7, cX7_isThrown, 3, (some .boolean), by decide, ct_X7_isThrown_0 hl, fun _ => ⟨gc_RX7_110v, by decide, _, rfl, rfl⟩, fun h => Bool.noConfusion h⟩) (en_ac (⟨yX7_isThrown, RX7, cX7_isThrown, 3, (some .boolean), by decide, ct_X7_isThrown_1 hl, fun _ => ⟨gc_RX7_110v, by decide, _, rfl, rfl⟩, fun h => Bool.noConfusion h⟩) (en_ac (⟨yX7_isThrown, RX7, cX7_isThrown, 3, (some .boolean), by decide, ct_X7_isThrown_2 hl, fun _ => ⟨gc_RX7_110v, by decide, _, rfl, rfl⟩, fun h => Bool.noConfusion h⟩) (en_ac (⟨yX7_isNoPlayer, RX7, cX7_isNoPlayer, 2, (some .boolean), by decide, ct_X7_isNoPlayer_0 hl, fun _ => ⟨gc_RX7_132v, by decide, _, rfl, rfl⟩, fun h => Bool.noConfusion h⟩) en_an)))), en_LTX7_ok, en_LLX7_ok, en_TTX7_ok hl, cw256, cw147⟩ de_X7_stroke ck_X7_stroke_0
def tb_X7_strokes : en_Tb := [
  (22, [(0, .aload_n 0, 1), (1, .iload_n 1, 1), (2, .invokevirtual 245, 3), (5, .ifCond .eq 7, 3), (8, .iconst 0, 1), (9, .goto 12, 3), (12, .aload_n 0, 1), (13, .getfield 23, 3), (16, .iload_n 1, 1), (17, .aaload, 1), (18, .bipush 7, 2), (20, .iaload, 1), (21, .ireturn, 1)])]
set_option maxRecDepth 40000 in
theorem de_X7_strokes : en_De tb_X7_strokes cX7_strokes := by
  unfold en_De
  decide +kernel
def k_X7_strokes_0 : en_K := (2, ([.inr (.inl 20), .inl ((-2147483648), 2147483647, 0, 0), .inl (0, 0, 0, 0)], [(0, 0, 22, 2, 0, 0)]), [([.inr (.inl 20), .inl ((-2147483648), 2147483647, 0, 0), .inl ((-2147483648), 2147483647, 0, 0)], [])], [(20, 30)], [20, 26, 27], (0, 0), [])
def u_X7_strokes_0 : List en_U := []
def x_X7_strokes_0 : en_Cx := ((en_KT0, en_TY0, en_om0), en_FTX7, en_PTX7, [(245, true, 13, 0, 2, k_X7_isNone_0)], en_LTX7, en_LLX7, en_TTX7)
def m_X7_strokes_0 : en_Mx := (k_X7_strokes_0, 3, 2, (0, 0), tb_X7_strokes, [])
set_option maxRecDepth 100000 in
theorem ck_X7_strokes_0 : en_all x_X7_strokes_0 m_X7_strokes_0 u_X7_strokes_0 14 = true := by decide +kernel
theorem ct_X7_strokes_0 {l : Launch} (hl : l.stackTraces = false) {cx cy : Int32} : en_Ctr l vwCl en_TY0 (en_Pc cx cy) en_om0 (en_Oc cx cy) en_KT0 yX7_strokes (Cond.code yX7_strokes cX7_strokes 2 (some .int) :: en_cw) (en_rm 3 (0, 0)) 0 k_X7_strokes_0 :=
  en_main (X := x_X7_strokes_0) (M := m_X7_strokes_0) en_Pc_ok en_f32_ok en_f64_ok hl (by decide +kernel) ⟨en_FTX7_ok, en_PTX7_ok, en_ac (⟨yX7_isNone, RX7, cX7_isNone, 2, (some .boolean), by decide, ct_X7_isNone_0 hl, fun _ => ⟨gc_RX7_245v, by decide, _, rfl, rfl⟩, fun h => Bool.noConfusion h⟩) en_an, en_LTX7_ok, en_LLX7_ok, en_TTX7_ok hl, cw256, cw147⟩ de_X7_strokes ck_X7_strokes_0
def k_X7_strokes_1 : en_K := (2, ([.inr (.inl 20), .inl ((-2147483648), 2147483647, 0, 0), .inl (1, 1, 0, 0)], [(0, 0, 22, 2, 0, 0), (5, 0, 0, 0, 0, 0)]), [([.inr (.inl 20), .inl ((-2147483648), 2147483647, 0, 0), .inl ((-2147483648), 2147483647, 0, 0), .inl (1, 1, 0, 0)], [(0, 0, 22, 3, 0, 0), (5, 0, 0, 0, 0, 0)])], [(20, 30)], [20, 26, 27], (0, 0), [])
def u_X7_strokes_1 : List en_U := []
def x_X7_strokes_1 : en_Cx := ((en_KT0, en_TY0, en_om0), en_FTX7, en_PTX7, [(245, true, 13, 0, 2, k_X7_isNone_1)], en_LTX7, en_LLX7, en_TTX7)
def m_X7_strokes_1 : en_Mx := (k_X7_strokes_1, 3, 2, (0, 0), tb_X7_strokes, [])
set_option maxRecDepth 100000 in
theorem ck_X7_strokes_1 : en_all x_X7_strokes_1 m_X7_strokes_1 u_X7_strokes_1 14 = true := by decide +kernel
theorem ct_X7_strokes_1 {l : Launch} (hl : l.stackTraces = false) {cx cy : Int32} : en_Ctr l vwCl en_TY0 (en_Pc cx cy) en_om0 (en_Oc cx cy) en_KT0 yX7_strokes (Cond.code yX7_strokes cX7_strokes 2 (some .int) :: en_cw) (en_rm 3 (0, 0)) 0 k_X7_strokes_1 :=
  en_main (X := x_X7_strokes_1) (M := m_X7_strokes_1) en_Pc_ok en_f32_ok en_f64_ok hl (by decide +kernel) ⟨en_FTX7_ok, en_PTX7_ok, en_ac (⟨yX7_isNone, RX7, cX7_isNone, 2, (some .boolean), by decide, ct_X7_isNone_1 hl, fun _ => ⟨gc_RX7_245v, by decide, _, rfl, rfl⟩, fun h => Bool.noConfusion h⟩) en_an, en_LTX7_ok, en_LLX7_ok, en_TTX7_ok hl, cw256, cw147⟩ de_X7_strokes ck_X7_strokes_1
def tb_X7_suspend : en_Tb := [
  (28, [(0, .aload_n 0, 1), (1, .aload_n 0, 1), (2, .getfield 135, 3), (5, .ifCond .ne 7, 3), (8, .iconst 1, 1), (9, .goto 4, 3), (12, .iconst 0, 1), (13, .iconst 1, 1), (14, .invokevirtual 110, 3), (17, .ifCond .eq 5, 3), (20, .iconst 0, 1), (21, .ireturn, 1), (22, .aload_n 0, 1), (23, .getfield 145, 3), (26, .istore_n 2, 1), (27, .aload_n 0, 1)]), 
  (34, [(28, .iload_n 1, 1), (29, .putfield 145, 3), (32, .iload_n 2, 1), (33, .ireturn, 1)])]
set_option maxRecDepth 40000 in
theorem de_X7_suspend : en_De tb_X7_suspend cX7_suspend := by
  unfold en_De
  decide +kernel
def k_X7_suspend_0 : en_K := (2, ([.inr (.inl 20), .inl (0, 1, 0, 0), .inl (0, 0, 0, 0)], [(0, 0, 22, 2, 0, 0)]), [([.inr (.inl 20), .inl (0, 1, 0, 0), .inl (0, 0, 0, 0), .inl (0, 0, 0, 0)], [(0, 0, 22, 3, 0, 0)])], [(20, 30)], [20], (0, 0), [])
def u_X7_suspend_0 : List en_U := []
def x_X7_suspend_0 : en_Cx := ((en_KT0, en_TY0, en_om0), en_FTX7, en_PTX7, [(110, true, 13, 0, 0, k_X7_isThrown_0)], en_LTX7, en_LLX7, en_TTX7)
def m_X7_suspend_0 : en_Mx := (k_X7_suspend_0, 1, 3, (0, 2), tb_X7_suspend, [])
set_option maxRecDepth 100000 in
theorem ck_X7_suspend_0 : en_all x_X7_suspend_0 m_X7_suspend_0 u_X7_suspend_0 14 = true := by decide +kernel
theorem ct_X7_suspend_0 {l : Launch} (hl : l.stackTraces = false) {cx cy : Int32} : en_Ctr l vwCl en_TY0 (en_Pc cx cy) en_om0 (en_Oc cx cy) en_KT0 yX7_suspend (Cond.code yX7_suspend cX7_suspend 3 (some .boolean) :: en_cw) (en_rm 1 (0, 0)) 0 k_X7_suspend_0 :=
  en_main (X := x_X7_suspend_0) (M := m_X7_suspend_0) en_Pc_ok en_f32_ok en_f64_ok hl (by decide +kernel) ⟨en_FTX7_ok, en_PTX7_ok, en_ac (⟨yX7_isThrown, RX7, cX7_isThrown, 3, (some .boolean), by decide, ct_X7_isThrown_0 hl, fun _ => ⟨gc_RX7_110v, by decide, _, rfl, rfl⟩, fun h => Bool.noConfusion h⟩) en_an, en_LTX7_ok, en_LLX7_ok, en_TTX7_ok hl, cw256, cw147⟩ de_X7_suspend ck_X7_suspend_0
def k_X7_suspend_1 : en_K := (2, ([.inr (.inl 20), .inl (0, 1, 0, 0), .inl (1, 1, 0, 0)], [(0, 0, 22, 2, 0, 0), (5, 0, 0, 0, 0, 0)]), [([.inr (.inl 20), .inl (0, 1, 0, 0), .inl (0, 1, 0, 0), .inl (1, 1, 0, 0)], [(0, 0, 23, 1, 0, 0), (0, 0, 22, 3, 0, 0), (5, 0, 0, 0, 0, 0), (6, 3, 0, 0, 0, 0)])], [(20, 23), (20, 30)], [20], (0, 0), [])
def u_X7_suspend_1 : List en_U := []
def x_X7_suspend_1 : en_Cx := ((en_KT0, en_TY0, en_om0), en_FTX7, en_PTX7, [(110, true, 13, 0, 0, k_X7_isThrown_4)], en_LTX7, en_LLX7, en_TTX7)
def m_X7_suspend_1 : en_Mx := (k_X7_suspend_1, 1, 3, (0, 2), tb_X7_suspend, [])
set_option maxRecDepth 100000 in
theorem ck_X7_suspend_1 : en_all x_X7_suspend_1 m_X7_suspend_1 u_X7_suspend_1 19 = true := by decide +kernel
theorem ct_X7_suspend_1 {l : Launch} (hl : l.stackTraces = false) {cx cy : Int32} : en_Ctr l vwCl en_TY0 (en_Pc cx cy) en_om0 (en_Oc cx cy) en_KT0 yX7_suspend (Cond.code yX7_suspend cX7_suspend 3 (some .boolean) :: en_cw) (en_rm 1 (0, 0)) 0 k_X7_suspend_1 :=
  en_main (X := x_X7_suspend_1) (M := m_X7_suspend_1) en_Pc_ok en_f32_ok en_f64_ok hl (by decide +kernel) ⟨en_FTX7_ok, en_PTX7_ok, en_ac (⟨yX7_isThrown, RX7, cX7_isThrown, 3, (some .boolean), by decide, ct_X7_isThrown_4 hl, fun _ => ⟨gc_RX7_110v, by decide, _, rfl, rfl⟩, fun h => Bool.noConfusion h⟩) en_an, en_LTX7_ok, en_LLX7_ok, en_TTX7_ok hl, cw256, cw147⟩ de_X7_suspend ck_X7_suspend_1
def tb_X7_thrown : en_Tb := [
  (5, [(0, .aload_n 0, 1), (1, .getfield 79, 3), (4, .ireturn, 1)])]
set_option maxRecDepth 40000 in
theorem de_X7_thrown : en_De tb_X7_thrown cX7_thrown := by
  unfold en_De
  decide +kernel
def k_X7_thrown_0 : en_K := (1, ([.inr (.inl 20)], []), [([.inr (.inl 20), .inl ((-2147483648), 2147483647, 0, 0)], [(0, 0, 30, 1, 0, 0)])], [], [20], (0, 0), [])
def u_X7_thrown_0 : List en_U := []
def x_X7_thrown_0 : en_Cx := ((en_KT0, en_TY0, en_om0), en_FTX7, en_PTX7, [], en_LTX7, en_LLX7, en_TTX7)
def m_X7_thrown_0 : en_Mx := (k_X7_thrown_0, 0, 1, (0, 0), tb_X7_thrown, [])
set_option maxRecDepth 100000 in
theorem ck_X7_thrown_0 : en_all x_X7_thrown_0 m_X7_thrown_0 u_X7_thrown_0 6 = true := by decide +kernel
theorem ct_X7_thrown_0 {l : Launch} (hl : l.stackTraces = false) {cx cy : Int32} : en_Ctr l vwCl en_TY0 (en_Pc cx cy) en_om0 (en_Oc cx cy) en_KT0 yX7_thrown (Cond.code yX7_thrown cX7_thrown 1 (some .int) :: en_cw) (en_rm 0 (0, 0)) 0 k_X7_thrown_0 :=
  en_main (X := x_X7_thrown_0) (M := m_X7_thrown_0) en_Pc_ok en_f32_ok en_f64_ok hl (by decide +kernel) ⟨en_FTX7_ok, en_PTX7_ok, en_an, en_LTX7_ok, en_LLX7_ok, en_TTX7_ok hl, cw256, cw147⟩ de_X7_thrown ck_X7_thrown_0
def k_X7_thrown_1 : en_K := (1, ([.inr (.inl 20)], [(5, 0, 0, 0, 0, 0)]), [([.inr (.inl 20), .inl ((-2147483648), 2147483647, 0, 0)], [(0, 0, 30, 1, 0, 0), (5, 0, 0, 0, 0, 0)])], [], [20], (0, 0), [])
def u_X7_thrown_1 : List en_U := []
def x_X7_thrown_1 : en_Cx := ((en_KT0, en_TY0, en_om0), en_FTX7, en_PTX7, [], en_LTX7, en_LLX7, en_TTX7)
def m_X7_thrown_1 : en_Mx := (k_X7_thrown_1, 0, 1, (0, 0), tb_X7_thrown, [])
set_option maxRecDepth 100000 in
theorem ck_X7_thrown_1 : en_all x_X7_thrown_1 m_X7_thrown_1 u_X7_thrown_1 6 = true := by decide +kernel
theorem ct_X7_thrown_1 {l : Launch} (hl : l.stackTraces = false) {cx cy : Int32} : en_Ctr l vwCl en_TY0 (en_Pc cx cy) en_om0 (en_Oc cx cy) en_KT0 yX7_thrown (Cond.code yX7_thrown cX7_thrown 1 (some .int) :: en_cw) (en_rm 0 (0, 0)) 0 k_X7_thrown_1 :=
  en_main (X := x_X7_thrown_1) (M := m_X7_thrown_1) en_Pc_ok en_f32_ok en_f64_ok hl (by decide +kernel) ⟨en_FTX7_ok, en_PTX7_ok, en_an, en_LTX7_ok, en_LLX7_ok, en_TTX7_ok hl, cw256, cw147⟩ de_X7_thrown ck_X7_thrown_1
def k_X7_strokesFor_4 : en_K := (3, ([.inr (.inl 20), .inl (0, 36, 0, 0), .inl (0, 8, 0, 0), .inl (1, 9, 0, 0), .inl (1, 9, 0, 0)], [(0, 0, 16, 3, 0, 0), (0, 0, 16, 4, 0, 0)]), [([.inr (.inl 20), .inl (0, 36, 0, 0), .inl (0, 8, 0, 0), .inl (0, 37, 0, 0), .inl (1, 9, 0, 0)], [(0, 0, 16, 4, 0, 0)])], [], [20, 21, 22], (0, 0), [])
def u_X7_strokesFor_4 : List en_U := [
  (5, ([.inr (.inl 20), .inl (0, 36, 0, 0), .inl (0, 8, 0, 0), .inl (0, 9, 0, 0), .inl ((-2147483648), 2147483647, 0, 0), .inl (1, 9, 0, 0)], [(0, 0, 16, 5, 0, 0)]), [(0, 0), (1, 1), (2, 2), (4, 3), (3, 4)], (0, 0), [((-2), 3)], 22)]
def x_X7_strokesFor_4 : en_Cx := ((en_KT0, en_TY0, en_om0), en_FTX7, en_PTX7, [], en_LTX7, en_LLX7, en_TTX7)
def m_X7_strokesFor_4 : en_Mx := (k_X7_strokesFor_4, 0, 5, (0, 0), tb_X7_strokesFor, [])
set_option maxRecDepth 100000 in
theorem ck_X7_strokesFor_4 : en_all x_X7_strokesFor_4 m_X7_strokesFor_4 u_X7_strokesFor_4 27 = true := by decide +kernel
theorem ct_X7_strokesFor_4 {l : Launch} (hl : l.stackTraces = false) {cx cy : Int32} : en_Ctr l vwCl en_TY0 (en_Pc cx cy) en_om0 (en_Oc cx cy) en_KT0 yX7_strokesFor (Cond.code yX7_strokesFor cX7_strokesFor 5 (some .int) :: en_cw) (en_rm 0 (0, 0)) 0 k_X7_strokesFor_4 :=
  en_main (X := x_X7_strokesFor_4) (M := m_X7_strokesFor_4) en_Pc_ok en_f32_ok en_f64_ok hl (by decide +kernel) ⟨en_FTX7_ok, en_PTX7_ok, en_an, en_LTX7_ok, en_LLX7_ok, en_TTX7_ok hl, cw256, cw147⟩ de_X7_strokesFor ck_X7_strokesFor_4
def k_X7_net_2 : en_K := (3, ([.inr (.inl 20), .inl (0, 5, 0, 0), .inl (0, 8, 0, 0), .inl (1, 9, 0, 0), .inl (1, 9, 0, 0)], [(0, 0, 16, 3, 0, 0), (0, 0, 16, 4, 0, 0)]), [([.inr (.inl 20), .inl (0, 5, 0, 0), .inl (0, 8, 0, 0), .inl ((-2147483648), 2147483647, 0, 0), .inl (1, 9, 0, 0)], [(0, 0, 16, 4, 0, 0)])], [], [20, 21, 22, 25, 33, 34], (0, 0), [])
def u_X7_net_2 : List en_U := []
def x_X7_net_2 : en_Cx := ((en_KT0, en_TY0, en_om0), en_FTX7, en_PTX7, [(138, true, 13, 0, 0, k_X7_strokesFor_4)], en_LTX7, en_LLX7, en_TTX7)
def m_X7_net_2 : en_Mx := (k_X7_net_2, 1, 3, (0, 0), tb_X7_net, [])
set_option maxRecDepth 100000 in
theorem ck_X7_net_2 : en_all x_X7_net_2 m_X7_net_2 u_X7_net_2 18 = true := by decide +kernel
theorem ct_X7_net_2 {l : Launch} (hl : l.stackTraces = false) {cx cy : Int32} : en_Ctr l vwCl en_TY0 (en_Pc cx cy) en_om0 (en_Oc cx cy) en_KT0 yX7_net (Cond.code yX7_net cX7_net 3 (some .int) :: en_cw) (en_rm 1 (0, 0)) 0 k_X7_net_2 :=
  en_main (X := x_X7_net_2) (M := m_X7_net_2) en_Pc_ok en_f32_ok en_f64_ok hl (by decide +kernel) ⟨en_FTX7_ok, en_PTX7_ok, en_ac (⟨yX7_strokesFor, RX7, cX7_strokesFor, 5, (some .int), by decide, ct_X7_strokesFor_4 hl, fun _ => ⟨gc_RX7_138v, by decide, _, rfl, rfl⟩, fun h => Bool.noConfusion h⟩) en_an, en_LTX7_ok, en_LLX7_ok, en_TTX7_ok hl, cw256, cw147⟩ de_X7_net ck_X7_net_2
def tb_X7_together : en_Tb := [
  (30, [(0, .aload_n 0, 1), (1, .aload_n 0, 1), (2, .iload_n 1, 1), (3, .invokevirtual 132, 3), (6, .ifCond .ne 11, 3), (9, .aload_n 0, 1), (10, .iload_n 2, 1), (11, .invokevirtual 132, 3), (14, .ifCond .eq 7, 3), (17, .iconst 1, 1), (18, .goto 4, 3), (21, .iconst 0, 1), (22, .iconst 1, 1), (23, .invokevirtual 110, 3), (26, .ifCond .ne 21, 3), (29, .aload_n 0, 1)]), 
  (55, [(30, .iload_n 1, 1), (31, .iload_n 2, 1), (32, .if_icmp .ne 7, 3), (35, .iconst 1, 1), (36, .goto 4, 3), (39, .iconst 0, 1), (40, .iconst 2, 1), (41, .invokevirtual 110, 3), (44, .ifCond .eq 5, 3), (47, .iconst 0, 1), (48, .ireturn, 1), (49, .iconst 0, 1), (50, .istore_n 3, 1), (51, .iconst 0, 1), (52, .istore 4, 2), (54, .iconst 0, 1)]), 
  (86, [(55, .istore 5, 2), (57, .iload 5, 2), (59, .aload_n 0, 1), (60, .getfield 86, 3), (63, .if_icmp .ge 99, 3), (66, .aload_n 0, 1), (67, .getfield 35, 3), (70, .iload_n 1, 1), (71, .aaload, 1), (72, .iload 5, 2), (74, .iaload, 1), (75, .ifCond .ne 9, 3), (78, .sipush 9999, 3), (81, .goto 10, 3), (84, .aload_n 0, 1), (85, .iload_n 1, 1)]), 
  (116, [(86, .iload 5, 2), (88, .invokevirtual 258, 3), (91, .istore 6, 2), (93, .aload_n 0, 1), (94, .getfield 35, 3), (97, .iload_n 2, 1), (98, .aaload, 1), (99, .iload 5, 2), (101, .iaload, 1), (102, .ifCond .ne 9, 3), (105, .sipush 9999, 3), (108, .goto 10, 3), (111, .aload_n 0, 1), (112, .iload_n 2, 1), (113, .iload 5, 2), (115, .invokevirtual 258, 3)]), 
  (150, [(118, .istore 7, 2), (120, .iload 4, 2), (122, .iload 6, 2), (124, .sipush 9999, 3), (127, .if_icmp .ne 15, 3), (130, .iload 7, 2), (132, .sipush 9999, 3), (135, .if_icmp .ne 7, 3), (138, .iconst 1, 1), (139, .goto 4, 3), (142, .iconst 0, 1), (143, .ior, 1), (144, .istore 4, 2), (146, .iload_n 3, 1), (147, .iload 6, 2), (149, .iload 7, 2)]), 
  (178, [(151, .invokestatic 269, 3), (154, .iadd, 1), (155, .istore_n 3, 1), (156, .iinc 5 1, 3), (159, .goto (-102), 3), (162, .aload_n 0, 1), (163, .iload 4, 2), (165, .iconst 3, 1), (166, .invokevirtual 110, 3), (169, .ifCond .eq 7, 3), (172, .iconst 0, 1), (173, .goto 4, 3), (176, .iload_n 3, 1), (177, .ireturn, 1)])]
set_option maxRecDepth 40000 in
theorem de_X7_together : en_De tb_X7_together cX7_together := by
  unfold en_De
  decide +kernel
def k_X7_together_0 : en_K := (3, ([.inr (.inl 20), .inl ((-2147483648), 2147483647, 0, 0), .inl ((-2147483648), 2147483647, 0, 0)], []), [([.inr (.inl 20), .inl ((-2147483648), 2147483647, 0, 0), .inl ((-2147483648), 2147483647, 0, 0), .inl ((-2147483648), 2147483647, 0, 0)], [])], [(20, 30)], [20, 21, 22, 25, 33, 34], (0, 0), [])
def u_X7_together_0 : List en_U := [
  (57, ([.inr (.inl 20), .inl (0, 5, 0, 0), .inl (0, 5, 0, 0), .inl (0, 9, 0, 0), .inl (0, 1, 0, 0), .inl ((-2147483648), 2147483647, 0, 0), .inl (1, 6, 0, 0)], [(0, 0, 17, 6, 0, 0)]), [(0, 0), (1, 1), (2, 2), (5, 3), (4, 4), (3, 5)], (0, 0), [((-2), 3)], 22)]
def x_X7_together_0 : en_Cx := ((en_KT0, en_TY0, en_om0), en_FTX7, en_PTX7, [(110, true, 13, 0, 0, k_X7_isThrown_0), (110, true, 13, 0, 0, k_X7_isThrown_1), (110, true, 13, 0, 0, k_X7_isThrown_15), (110, true, 13, 0, 0, k_X7_isThrown_2), (110, true, 13, 0, 0, k_X7_isThrown_8), (132, true, 13, 0, 1, k_X7_isNoPlayer_0), (258, true, 13, 0, 1, k_X7_net_0), (258, true, 13, 0, 1, k_X7_net_2), (269, false, 0, 0, 0, k_J9_min_7cf53_0)], en_LTX7, en_LLX7, en_TTX7)
def m_X7_together_0 : en_Mx := (k_X7_together_0, 2, 8, (0, 0), tb_X7_together, [])
set_option maxRecDepth 100000 in
theorem ck_X7_together_0 : en_all x_X7_together_0 m_X7_together_0 u_X7_together_0 50 = true := by decide +kernel
theorem ct_X7_together_0 {l : Launch} (hl : l.stackTraces = false) {cx cy : Int32} : en_Ctr l vwCl en_TY0 (en_Pc cx cy) en_om0 (en_Oc cx cy) en_KT0 yX7_together (Cond.code yX7_together cX7_together 8 (some .int) :: en_cw) (en_rm 2 (0, 0)) 0 k_X7_together_0 :=
  en_main (X := x_X7_together_0) (M := m_X7_together_0) en_Pc_ok en_f32_ok en_f64_ok hl (by decide +kernel) ⟨en_FTX7_ok, en_PTX7_ok, en_ac (⟨yX7_isThrown, RX7, cX7_isThrown, 3, (some .boolean), by decide, ct_X7_isThrown_0 hl, fun _ => ⟨gc_RX7_110v, by decide, _, rfl, rfl⟩, fun h => Bool.noConfusion h⟩) (en_ac (⟨yX7_isThrown, RX7, cX7_isThrown, 3, (some .boolean), by decide, ct_X7_isThrown_1 hl, fun _ => ⟨gc_RX7_110v, by decide, _, rfl, rfl⟩, fun h => Bool.noConfusion h⟩) (en_ac (⟨yX7_isThrown, RX7, cX7_isThrown, 3, (some .boolean), by decide, ct_X7_isThrown_15 hl, fun _ => ⟨gc_RX7_110v, by decide, _, rfl, rfl⟩, fun h => Bool.noConfusion h⟩) (en_ac (⟨yX7_isThrown, RX7, cX7_isThrown, 3, (some .boolean), by decide, ct_X7_isThrown_2 hl, fun _ => ⟨gc_RX7_110v, by decide, _, rfl, rfl⟩, fun h => Bool.noConfusion h⟩) (en_ac (⟨yX7_isThrown, RX7, cX7_isThrown, 3, (some .boolean), by decide, ct_X7_isThrown_8 hl, fun _ => ⟨gc_RX7_110v, by decide, _, rfl, rfl⟩, fun h => Bool.noConfusion h⟩) (en_ac (⟨yX7_isNoPlayer, RX7, cX7_isNoPlayer, 2, (some .boolean), by decide, ct_X7_isNoPlayer_0 hl, fun _ => ⟨gc_RX7_132v, by decide, _, rfl, rfl⟩, fun h => Bool.noConfusion h⟩) (en_ac (⟨yX7_net, RX7, cX7_net, 3, (some .int), by decide, ct_X7_net_0 hl, fun _ => ⟨gc_RX7_258v, by decide, _, rfl, rfl⟩, fun h => Bool.noConfusion h⟩) (en_ac (⟨yX7_net, RX7, cX7_net, 3, (some .int), by decide, ct_X7_net_2 hl, fun _ => ⟨gc_RX7_258v, by decide, _, rfl, rfl⟩, fun h => Bool.noConfusion h⟩) (en_ac (⟨yJ9_min_7cf53, RJ9, cJ9_min_7cf53, 2, (some .int), by decide, ct_J9_min_7cf53_0 hl en_Pc_ok _, fun h => Bool.noConfusion h, fun _ => gc_RX7_269s⟩) en_an)))))))), en_LTX7_ok, en_LLX7_ok, en_TTX7_ok hl, cw256, cw147⟩ de_X7_together ck_X7_together_0
def k_X7_net_3 : en_K := (3, ([.inr (.inl 20), .inl (0, 5, 0, 0), .inl (0, 8, 0, 0), .inl (1, 9, 0, 0), .inl (1, 9, 0, 0)], [(0, 0, 16, 3, 0, 0), (0, 0, 16, 4, 0, 0), (5, 0, 0, 0, 0, 0)]), [([.inr (.inl 20), .inl (0, 5, 0, 0), .inl (0, 8, 0, 0), .inl ((-2147483648), 2147483647, 0, 0), .inl (1, 9, 0, 0)], [(0, 0, 16, 4, 0, 0), (5, 0, 0, 0, 0, 0)])], [], [20, 21, 22, 25, 33, 34], (0, 0), [])
def u_X7_net_3 : List en_U := []
def x_X7_net_3 : en_Cx := ((en_KT0, en_TY0, en_om0), en_FTX7, en_PTX7, [(138, true, 13, 0, 0, k_X7_strokesFor_1)], en_LTX7, en_LLX7, en_TTX7)
def m_X7_net_3 : en_Mx := (k_X7_net_3, 1, 3, (0, 0), tb_X7_net, [])
set_option maxRecDepth 100000 in
theorem ck_X7_net_3 : en_all x_X7_net_3 m_X7_net_3 u_X7_net_3 18 = true := by decide +kernel
theorem ct_X7_net_3 {l : Launch} (hl : l.stackTraces = false) {cx cy : Int32} : en_Ctr l vwCl en_TY0 (en_Pc cx cy) en_om0 (en_Oc cx cy) en_KT0 yX7_net (Cond.code yX7_net cX7_net 3 (some .int) :: en_cw) (en_rm 1 (0, 0)) 0 k_X7_net_3 :=
  en_main (X := x_X7_net_3) (M := m_X7_net_3) en_Pc_ok en_f32_ok en_f64_ok hl (by decide +kernel) ⟨en_FTX7_ok, en_PTX7_ok, en_ac (⟨yX7_strokesFor, RX7, cX7_strokesFor, 5, (some .int), by decide, ct_X7_strokesFor_1 hl, fun _ => ⟨gc_RX7_138v, by decide, _, rfl, rfl⟩, fun h => Bool.noConfusion h⟩) en_an, en_LTX7_ok, en_LLX7_ok, en_TTX7_ok hl, cw256, cw147⟩ de_X7_net ck_X7_net_3
def k_X7_together_1 : en_K := (3, ([.inr (.inl 20), .inl ((-2147483648), 2147483647, 0, 0), .inl ((-2147483648), 2147483647, 0, 0), .inl (1, 9, 0, 0)], [(0, 0, 16, 3, 0, 0), (5, 0, 0, 0, 0, 0)]), [([.inr (.inl 20), .inl ((-2147483648), 2147483647, 0, 0), .inl ((-2147483648), 2147483647, 0, 0), .inl ((-2147483648), 2147483647, 0, 0), .inl (1, 9, 0, 0)], [(0, 0, 16, 4, 0, 0), (5, 0, 0, 0, 0, 0)])], [(20, 30)], [20, 21, 22, 25, 33, 34], (0, 0), [])
def u_X7_together_1 : List en_U := [
  (57, ([.inr (.inl 20), .inl (0, 5, 0, 0), .inl (0, 5, 0, 0), .inl (0, 9, 0, 0), .inl (0, 1, 0, 0), .inl ((-2147483648), 2147483647, 0, 0), .inl (1, 9, 0, 0), .inl (1, 6, 0, 0)], [(0, 0, 16, 6, 0, 0), (0, 0, 17, 7, 0, 0), (5, 0, 0, 0, 0, 0)]), [(0, 0), (1, 1), (2, 2), (5, 3), (4, 4), (3, 5)], (0, 0), [((-2), 3)], 22)]
def x_X7_together_1 : en_Cx := ((en_KT0, en_TY0, en_om0), en_FTX7, en_PTX7, [(110, true, 13, 0, 0, k_X7_isThrown_11), (110, true, 13, 0, 0, k_X7_isThrown_14), (110, true, 13, 0, 0, k_X7_isThrown_3), (110, true, 13, 0, 0, k_X7_isThrown_4), (110, true, 13, 0, 0, k_X7_isThrown_5), (132, true, 13, 0, 1, k_X7_isNoPlayer_1), (258, true, 13, 0, 1, k_X7_net_1), (258, true, 13, 0, 1, k_X7_net_3), (269, false, 0, 0, 0, k_J9_min_7cf53_0)], en_LTX7, en_LLX7, en_TTX7)
def m_X7_together_1 : en_Mx := (k_X7_together_1, 2, 8, (0, 0), tb_X7_together, [])
set_option maxRecDepth 100000 in
theorem ck_X7_together_1 : en_all x_X7_together_1 m_X7_together_1 u_X7_together_1 50 = true := by decide +kernel
theorem ct_X7_together_1 {l : Launch} (hl : l.stackTraces = false) {cx cy : Int32} : en_Ctr l vwCl en_TY0 (en_Pc cx cy) en_om0 (en_Oc cx cy) en_KT0 yX7_together (Cond.code yX7_together cX7_together 8 (some .int) :: en_cw) (en_rm 2 (0, 0)) 0 k_X7_together_1 :=
  en_main (X := x_X7_together_1) (M := m_X7_together_1) en_Pc_ok en_f32_ok en_f64_ok hl (by decide +kernel) ⟨en_FTX7_ok, en_PTX7_ok, en_ac (⟨yX7_isThrown, RX7, cX7_isThrown, 3, (some .boolean), by decide, ct_X7_isThrown_11 hl, fun _ => ⟨gc_RX7_110v, by decide, _, rfl, rfl⟩, fun h => Bool.noConfusion h⟩) (en_ac (⟨yX7_isThrown, RX7, cX7_isThrown, 3, (some .boolean), by decide, ct_X7_isThrown_14 hl, fun _ => ⟨gc_RX7_110v, by decide, _, rfl, rfl⟩, fun h => Bool.noConfusion h⟩) (en_ac (⟨yX7_isThrown, RX7, cX7_isThrown, 3, (some .boolean), by decide, ct_X7_isThrown_3 hl, fun _ => ⟨gc_RX7_110v, by decide, _, rfl, rfl⟩, fun h => Bool.noConfusion h⟩) (en_ac (⟨yX7_isThrown, RX7, cX7_isThrown, 3, (some .boolean), by decide, ct_X7_isThrown_4 hl, fun _ => ⟨gc_RX7_110v, by decide, _, rfl, rfl⟩, fun h => Bool.noConfusion h⟩) (en_ac (⟨yX7_isThrown, RX7, cX7_isThrown, 3, (some .boolean), by decide, ct_X7_isThrown_5 hl, fun _ => ⟨gc_RX7_110v, by decide, _, rfl, rfl⟩, fun h => Bool.noConfusion h⟩) (en_ac (⟨yX7_isNoPlayer, RX7, cX7_isNoPlayer, 2, (some .boolean), by decide, ct_X7_isNoPlayer_1 hl, fun _ => ⟨gc_RX7_132v, by decide, _, rfl, rfl⟩, fun h => Bool.noConfusion h⟩) (en_ac (⟨yX7_net, RX7, cX7_net, 3, (some .int), by decide, ct_X7_net_1 hl, fun _ => ⟨gc_RX7_258v, by decide, _, rfl, rfl⟩, fun h => Bool.noConfusion h⟩) (en_ac (⟨yX7_net, RX7, cX7_net, 3, (some .int), by decide, ct_X7_net_3 hl, fun _ => ⟨gc_RX7_258v, by decide, _, rfl, rfl⟩, fun h => Bool.noConfusion h⟩) (en_ac (⟨yJ9_min_7cf53, RJ9, cJ9_min_7cf53, 2, (some .int), by decide, ct_J9_min_7cf53_0 hl en_Pc_ok _, fun h => Bool.noConfusion h, fun _ => gc_RX7_269s⟩) en_an)))))))), en_LTX7_ok, en_LLX7_ok, en_TTX7_ok hl, cw256, cw147⟩ de_X7_together ck_X7_together_1
