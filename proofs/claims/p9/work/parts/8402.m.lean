def k_X7_isCell_1 : en_K := (2, ([.inl ((-2147483648), 2147483647, 0, 0), .inl ((-2147483648), 2147483647, 0, 0)], [(5, 0, 0, 0, 0, 0)]), [([.inl ((-2147483648), 2147483647, 0, 0), .inl ((-2147483648), 2147483647, 0, 0), .inl (0, 0, 0, 0)], [(5, 0, 0, 0, 0, 0)]), ([.inl (0, 29, 0, 0), .inl (0, 19, 0, 0), .inl (1, 1, 0, 0)], [(5, 0, 0, 0, 0, 0)])], [], [], (0, 0), [])
def u_X7_isCell_1 : List en_U := []
def x_X7_isCell_1 : en_Cx := ((en_KT0, en_TY0, en_om0), en_FTX7, en_PTX7, [(82, false, 0, 0, 0, k_X7_isIn_5), (82, false, 0, 0, 0, k_X7_isIn_6)], en_LTX7, en_LLX7, en_TTX7)
def m_X7_isCell_1 : en_Mx := (k_X7_isCell_1, 1, 2, (0, 2), tb_X7_isCell, [])
set_option maxRecDepth 100000 in
theorem ck_X7_isCell_1 : en_all x_X7_isCell_1 m_X7_isCell_1 u_X7_isCell_1 16 = true := by decide +kernel
theorem ct_X7_isCell_1 {l : Launch} (hl : l.stackTraces = false) {cx cy : Int32} : en_Ctr l vwCl en_TY0 (en_Pc cx cy) en_om0 (en_Oc cx cy) en_KT0 yX7_isCell (Cond.code yX7_isCell cX7_isCell 2 (some .boolean) :: en_cw) (en_rm 1 (0, 0)) 0 k_X7_isCell_1 :=
  en_main (X := x_X7_isCell_1) (M := m_X7_isCell_1) en_Pc_ok en_f32_ok en_f64_ok hl (by decide +kernel) ⟨en_FTX7_ok, en_PTX7_ok, en_ac (⟨yX7_isIn, RX7, cX7_isIn, 3, (some .boolean), by decide, ct_X7_isIn_5 hl, fun h => Bool.noConfusion h, fun _ => gc_RX7_82s⟩) (en_ac (⟨yX7_isIn, RX7, cX7_isIn, 3, (some .boolean), by decide, ct_X7_isIn_6 hl, fun h => Bool.noConfusion h, fun _ => gc_RX7_82s⟩) en_an), en_LTX7_ok, en_LLX7_ok, en_TTX7_ok hl, cw256, cw147⟩ de_X7_isCell ck_X7_isCell_1
def k_X7_isIn_7 : en_K := (3, ([.inl ((-2147483648), 2147483647, 0, 0), .inl (0, 0, 0, 0), .inl ((-1), 8, 0, 0)], [(5, 0, 0, 0, 0, 0)]), [([.inl ((-2147483648), 2147483647, 0, 0), .inl (0, 0, 0, 0), .inl ((-1), 8, 0, 0), .inl (0, 0, 0, 0)], [(5, 0, 0, 0, 0, 0)]), ([.inl (0, 8, 0, 0), .inl (0, 0, 0, 0), .inl (0, 8, 0, 0), .inl (1, 1, 0, 0)], [(5, 0, 0, 0, 0, 0)])], [], [], (0, 0), [])
def u_X7_isIn_7 : List en_U := []
def x_X7_isIn_7 : en_Cx := ((en_KT0, en_TY0, en_om0), en_FTX7, en_PTX7, [], en_LTX7, en_LLX7, en_TTX7)
def m_X7_isIn_7 : en_Mx := (k_X7_isIn_7, 0, 3, (0, 2), tb_X7_isIn, [])
set_option maxRecDepth 100000 in
theorem ck_X7_isIn_7 : en_all x_X7_isIn_7 m_X7_isIn_7 u_X7_isIn_7 12 = true := by decide +kernel
theorem ct_X7_isIn_7 {l : Launch} (hl : l.stackTraces = false) {cx cy : Int32} : en_Ctr l vwCl en_TY0 (en_Pc cx cy) en_om0 (en_Oc cx cy) en_KT0 yX7_isIn (Cond.code yX7_isIn cX7_isIn 3 (some .boolean) :: en_cw) (en_rm 0 (0, 0)) 0 k_X7_isIn_7 :=
  en_main (X := x_X7_isIn_7) (M := m_X7_isIn_7) en_Pc_ok en_f32_ok en_f64_ok hl (by decide +kernel) ⟨en_FTX7_ok, en_PTX7_ok, en_an, en_LTX7_ok, en_LLX7_ok, en_TTX7_ok hl, cw256, cw147⟩ de_X7_isIn ck_X7_isIn_7
def k_X7_isNoHole_1 : en_K := (2, ([.inr (.inl 20), .inl ((-2147483648), 2147483647, 0, 0)], [(5, 0, 0, 0, 0, 0)]), [([.inr (.inl 20), .inl (0, 8, 0, 0), .inl (0, 0, 0, 0), .inl (1, 9, 0, 0)], [(0, 0, 16, 3, 0, 0), (5, 0, 0, 0, 0, 0)]), ([.inr (.inl 20), .inl ((-2147483648), 2147483647, 0, 0), .inl (1, 1, 0, 0)], [(5, 0, 0, 0, 0, 0)])], [], [20], (0, 0), [])
def u_X7_isNoHole_1 : List en_U := []
def x_X7_isNoHole_1 : en_Cx := ((en_KT0, en_TY0, en_om0), en_FTX7, en_PTX7, [(82, false, 0, 0, 0, k_X7_isIn_7)], en_LTX7, en_LLX7, en_TTX7)
def m_X7_isNoHole_1 : en_Mx := (k_X7_isNoHole_1, 1, 2, (0, 2), tb_X7_isNoHole, [])
set_option maxRecDepth 100000 in
theorem ck_X7_isNoHole_1 : en_all x_X7_isNoHole_1 m_X7_isNoHole_1 u_X7_isNoHole_1 14 = true := by decide +kernel
theorem ct_X7_isNoHole_1 {l : Launch} (hl : l.stackTraces = false) {cx cy : Int32} : en_Ctr l vwCl en_TY0 (en_Pc cx cy) en_om0 (en_Oc cx cy) en_KT0 yX7_isNoHole (Cond.code yX7_isNoHole cX7_isNoHole 2 (some .boolean) :: en_cw) (en_rm 1 (0, 0)) 0 k_X7_isNoHole_1 :=
  en_main (X := x_X7_isNoHole_1) (M := m_X7_isNoHole_1) en_Pc_ok en_f32_ok en_f64_ok hl (by decide +kernel) ⟨en_FTX7_ok, en_PTX7_ok, en_ac (⟨yX7_isIn, RX7, cX7_isIn, 3, (some .boolean), by decide, ct_X7_isIn_7 hl, fun h => Bool.noConfusion h, fun _ => gc_RX7_82s⟩) en_an, en_LTX7_ok, en_LLX7_ok, en_TTX7_ok hl, cw256, cw147⟩ de_X7_isNoHole ck_X7_isNoHole_1
def k_X7_isThrown_11 : en_K := (3, ([.inr (.inl 20), .inl (1, 1, 0, 0), .inl (2, 2, 0, 0)], [(5, 0, 0, 0, 0, 0)]), [([.inr (.inl 20), .inl (1, 1, 0, 0), .inl (2, 2, 0, 0), .inl (1, 1, 0, 0)], [(0, 0, 30, 2, 0, 0), (5, 0, 0, 0, 0, 0), (6, 1, 0, 0, 0, 0)])], [(20, 30)], [20], (0, 0), [])
def u_X7_isThrown_11 : List en_U := []
def x_X7_isThrown_11 : en_Cx := ((en_KT0, en_TY0, en_om0), en_FTX7, en_PTX7, [], en_LTX7, en_LLX7, en_TTX7)
def m_X7_isThrown_11 : en_Mx := (k_X7_isThrown_11, 0, 3, (0, 2), tb_X7_isThrown, [])
set_option maxRecDepth 100000 in
theorem ck_X7_isThrown_11 : en_all x_X7_isThrown_11 m_X7_isThrown_11 u_X7_isThrown_11 11 = true := by decide +kernel
theorem ct_X7_isThrown_11 {l : Launch} (hl : l.stackTraces = false) {cx cy : Int32} : en_Ctr l vwCl en_TY0 (en_Pc cx cy) en_om0 (en_Oc cx cy) en_KT0 yX7_isThrown (Cond.code yX7_isThrown cX7_isThrown 3 (some .boolean) :: en_cw) (en_rm 0 (0, 0)) 0 k_X7_isThrown_11 :=
  en_main (X := x_X7_isThrown_11) (M := m_X7_isThrown_11) en_Pc_ok en_f32_ok en_f64_ok hl (by decide +kernel) ⟨en_FTX7_ok, en_PTX7_ok, en_an, en_LTX7_ok, en_LLX7_ok, en_TTX7_ok hl, cw256, cw147⟩ de_X7_isThrown ck_X7_isThrown_11
def k_X7_area_1 : en_K := (7, ([.inr (.inl 20), .inl ((-2147483648), 2147483647, 0, 0), .inl (0, 65535, 0, 0), .inl ((-2147483648), 2147483647, 0, 0), .inl ((-2147483648), 2147483647, 0, 0), .inl ((-2147483648), 2147483647, 0, 0), .inl ((-2147483648), 2147483647, 0, 0), .inl (1, 9, 0, 0)], [(0, 0, 16, 7, 0, 0), (5, 0, 0, 0, 0, 0)]), [([.inr (.inl 20), .inl ((-2147483648), 2147483647, 0, 0), .inl (0, 65535, 0, 0), .inl ((-2147483648), 2147483647, 0, 0), .inl ((-2147483648), 2147483647, 0, 0), .inl ((-2147483648), 2147483647, 0, 0), .inl ((-2147483648), 2147483647, 0, 0), .inl ((-2147483648), 2147483647, 0, 0)], [])], [(20, 30), (22, 0), (24, 0), (43, 0)], [20, 21, 22, 23, 24, 43], (1, 9), [])
def u_X7_area_1 : List en_U := [
  (117, ([.inr (.inl 20), .inl (0, 8, 0, 0), .inl (0, 65535, 0, 0), .inl (0, 29, 0, 0), .inl (0, 19, 0, 0), .inl (0, 29, 0, 0), .inl (0, 19, 0, 0), .inl (0, 20, 0, 0), .inl (1, 1, 0, 0), .inl (1, 9, 0, 0), .inl (0, 0, 0, 0)], [(0, 0, 16, 9, 0, 0), (0, 0, 21, 10, 0, 0), (5, 0, 0, 0, 0, 0), (6, 8, 0, 0, 0, 0)]), [(0, 0), (1, 1), (2, 2), (3, 3), (4, 4), (5, 5), (6, 6), (8, 7), (7, 8)], (1, 9), [((-67), 7)], 1474), 
  (127, ([.inr (.inl 20), .inl (0, 8, 0, 0), .inl (0, 65535, 0, 0), .inl (0, 29, 0, 0), .inl (0, 19, 0, 0), .inl (0, 29, 0, 0), .inl (0, 19, 0, 0), .inl (0, 30, 0, 0), .inl (0, 19, 0, 0), .inl (1, 1, 0, 0), .inl (1, 9, 0, 0), .inl (0, 0, 0, 0)], [(0, 0, 16, 10, 0, 0), (0, 0, 21, 11, 0, 0), (5, 0, 0, 0, 0, 0), (6, 9, 0, 0, 0, 0)]), [(0, 0), (1, 1), (2, 2), (3, 3), (4, 4), (5, 5), (6, 6), (9, 7), (8, 8), (7, 9)], (1, 9), [((-67), 8), ((-2), 7)], 1472)]
def x_X7_area_1 : en_Cx := ((en_KT0, en_TY0, en_om0), en_FTX7, en_PTX7, [(106, false, 0, 0, 1, k_X7_isCell_1), (110, true, 13, 0, 0, k_X7_isThrown_11), (110, true, 13, 0, 0, k_X7_isThrown_3), (110, true, 13, 0, 0, k_X7_isThrown_4), (110, true, 13, 0, 0, k_X7_isThrown_5), (110, true, 13, 0, 0, k_X7_isThrown_6), (110, true, 13, 0, 0, k_X7_isThrown_7), (124, false, 0, 0, 0, k_X7_isKind_1), (128, true, 13, 0, 1, k_X7_isNoHole_1)], en_LTX7, en_LLX7, en_TTX7)
def m_X7_area_1 : en_Mx := (k_X7_area_1, 2, 10, (0, 0), tb_X7_area, [])
set_option maxRecDepth 100000 in
theorem ck_X7_area_1 : en_all x_X7_area_1 m_X7_area_1 u_X7_area_1 56 = true := by decide +kernel
theorem ct_X7_area_1 {l : Launch} (hl : l.stackTraces = false) {cx cy : Int32} : en_Ctr l vwCl en_TY0 (en_Pc cx cy) en_om0 (en_Oc cx cy) en_KT0 yX7_area (Cond.code yX7_area cX7_area 10 (some .int) :: en_cw) (en_rm 2 (1, 9)) 0 k_X7_area_1 :=
  en_main (X := x_X7_area_1) (M := m_X7_area_1) en_Pc_ok en_f32_ok en_f64_ok hl (by decide +kernel) ⟨en_FTX7_ok, en_PTX7_ok, en_ac (⟨yX7_isCell, RX7, cX7_isCell, 2, (some .boolean), by decide, ct_X7_isCell_1 hl, fun h => Bool.noConfusion h, fun _ => gc_RX7_106s⟩) (en_ac (⟨yX7_isThrown, RX7, cX7_isThrown, 3, (some .boolean), by decide, ct_X7_isThrown_11 hl, fun _ => ⟨gc_RX7_110v, by decide, _, rfl, rfl⟩, fun h => Bool.noConfusion h⟩) (en_ac (⟨yX7_isThrown, RX7, cX7_isThrown, 3, (some .boolean), by decide, ct_X7_isThrown_3 hl, fun _ => ⟨gc_RX7_110v, by decide, _, rfl, rfl⟩, fun h => Bool.noConfusion h⟩) (en_ac (⟨yX7_isThrown, RX7, cX7_isThrown, 3, (some .boolean), by decide, ct_X7_isThrown_4 hl, fun _ => ⟨gc_RX7_110v, by decide, _, rfl, rfl⟩, fun h => Bool.noConfusion h⟩) (en_ac (⟨yX7_isThrown, RX7, cX7_isThrown, 3, (some .boolean), by decide, ct_X7_isThrown_5 hl, fun _ => ⟨gc_RX7_110v, by decide, _, rfl, rfl⟩, fun h => Bool.noConfusion h⟩) (en_ac (⟨yX7_isThrown, RX7, cX7_isThrown, 3, (some .boolean), by decide, ct_X7_isThrown_6 hl, fun _ => ⟨gc_RX7_110v, by decide, _, rfl, rfl⟩, fun h => Bool.noConfusion h⟩) (en_ac (⟨yX7_isThrown, RX7, cX7_isThrown, 3, (some .boolean), by decide, ct_X7_isThrown_7 hl, fun _ => ⟨gc_RX7_110v, by decide, _, rfl, rfl⟩, fun h => Bool.noConfusion h⟩) (en_ac (⟨yX7_isKind, RX7, cX7_isKind, 6, (some .boolean), by decide, ct_X7_isKind_1 hl, fun h => Bool.noConfusion h, fun _ => gc_RX7_124s⟩) (en_ac (⟨yX7_isNoHole, RX7, cX7_isNoHole, 2, (some .boolean), by decide, ct_X7_isNoHole_1 hl, fun _ => ⟨gc_RX7_128v, by decide, _, rfl, rfl⟩, fun h => Bool.noConfusion h⟩) en_an)))))))), en_LTX7_ok, en_LLX7_ok, en_TTX7_ok hl, cw256, cw147⟩ de_X7_area ck_X7_area_1
def tb_X7_aside : en_Tb := [
  (30, [(0, .aload_n 0, 1), (1, .aload_n 0, 1), (2, .iload_n 1, 1), (3, .invokevirtual 132, 3), (6, .ifCond .ne 11, 3), (9, .iload_n 2, 1), (10, .iload_n 3, 1), (11, .invokestatic 106, 3), (14, .ifCond .ne 7, 3), (17, .iconst 1, 1), (18, .goto 4, 3), (21, .iconst 0, 1), (22, .iconst 1, 1), (23, .invokevirtual 110, 3), (26, .ifCond .ne 49, 3), (29, .aload_n 0, 1)]), 
  (58, [(30, .aload_n 0, 1), (31, .getfield 135, 3), (34, .ifCond .ne 7, 3), (37, .iconst 1, 1), (38, .goto 4, 3), (41, .iconst 0, 1), (42, .iconst 2, 1), (43, .invokevirtual 110, 3), (46, .ifCond .ne 29, 3), (49, .aload_n 0, 1), (50, .aload_n 0, 1), (51, .aload_n 0, 1), (52, .getfield 23, 3), (55, .iload_n 1, 1), (56, .aaload, 1), (57, .invokevirtual 214, 3)]), 
  (87, [(60, .ifCond .ne 7, 3), (63, .iconst 1, 1), (64, .goto 4, 3), (67, .iconst 0, 1), (68, .iconst 3, 1), (69, .invokevirtual 110, 3), (72, .ifCond .eq 5, 3), (75, .iconst 0, 1), (76, .ireturn, 1), (77, .aload_n 0, 1), (78, .getfield 23, 3), (81, .iload_n 1, 1), (82, .aaload, 1), (83, .astore 4, 2), (85, .aload_n 0, 1), (86, .aload 4, 2)]), 
  (112, [(88, .iconst 1, 1), (89, .iaload, 1), (90, .aload 4, 2), (92, .iconst 2, 1), (93, .iaload, 1), (94, .invokevirtual 175, 3), (97, .bipush 121, 2), (99, .if_icmp .eq 54, 3), (102, .iload_n 2, 1), (103, .iload_n 3, 1), (104, .aload 4, 2), (106, .iconst 1, 1), (107, .iaload, 1), (108, .aload 4, 2), (110, .iconst 2, 1), (111, .iaload, 1)]), 
  (138, [(112, .invokestatic 102, 3), (115, .iconst 4, 1), (116, .if_icmp .gt 37, 3), (119, .aload_n 0, 1), (120, .iload_n 2, 1), (121, .iload_n 3, 1), (122, .invokevirtual 166, 3), (125, .aload_n 0, 1), (126, .aload 4, 2), (128, .iconst 1, 1), (129, .iaload, 1), (130, .aload 4, 2), (132, .iconst 2, 1), (133, .iaload, 1), (134, .invokevirtual 166, 3), (137, .if_icmp .lt 16, 3)]), 
  (168, [(140, .aload_n 0, 1), (141, .iload_n 2, 1), (142, .iload_n 3, 1), (143, .invokevirtual 223, 3), (146, .ifCond .eq 7, 3), (149, .iconst 1, 1), (150, .goto 4, 3), (153, .iconst 0, 1), (154, .istore 5, 2), (156, .aload_n 0, 1), (157, .iload 5, 2), (159, .ifCond .ne 7, 3), (162, .iconst 1, 1), (163, .goto 4, 3), (166, .iconst 0, 1), (167, .iconst 3, 1)]), 
  (188, [(168, .invokevirtual 110, 3), (171, .ifCond .eq 7, 3), (174, .iconst 0, 1), (175, .goto 12, 3), (178, .aload_n 0, 1), (179, .aload 4, 2), (181, .iload_n 2, 1), (182, .iload_n 3, 1), (183, .iconst 1, 1), (184, .invokevirtual 226, 3), (187, .ireturn, 1)])]
set_option maxRecDepth 40000 in
theorem de_X7_aside : en_De tb_X7_aside cX7_aside := by
  unfold en_De
  decide +kernel
def k_X7_aside_0 : en_K := (4, ([.inr (.inl 20), .inl ((-2147483648), 2147483647, 0, 0), .inl ((-2147483648), 2147483647, 0, 0), .inl ((-2147483648), 2147483647, 0, 0), .inl (0, 0, 0, 0)], [(0, 0, 22, 4, 0, 0)]), [([.inr (.inl 20), .inl ((-2147483648), 2147483647, 0, 0), .inl ((-2147483648), 2147483647, 0, 0), .inl ((-2147483648), 2147483647, 0, 0), .inl (0, 0, 0, 0)], [])], [(20, 30)], [20], (0, 0), [])
def u_X7_aside_0 : List en_U := []
def x_X7_aside_0 : en_Cx := ((en_KT0, en_TY0, en_om0), en_FTX7, en_PTX7, [(106, false, 0, 0, 1, k_X7_isCell_0), (110, true, 13, 0, 0, k_X7_isThrown_0), (110, true, 13, 0, 0, k_X7_isThrown_1), (110, true, 13, 0, 0, k_X7_isThrown_2), (132, true, 13, 0, 1, k_X7_isNoPlayer_0)], en_LTX7, en_LLX7, en_TTX7)
def m_X7_aside_0 : en_Mx := (k_X7_aside_0, 2, 6, (0, 0), tb_X7_aside, [])
set_option maxRecDepth 100000 in
theorem ck_X7_aside_0 : en_all x_X7_aside_0 m_X7_aside_0 u_X7_aside_0 27 = true := by decide +kernel
theorem ct_X7_aside_0 {l : Launch} (hl : l.stackTraces = false) {cx cy : Int32} : en_Ctr l vwCl en_TY0 (en_Pc cx cy) en_om0 (en_Oc cx cy) en_KT0 yX7_aside (Cond.code yX7_aside cX7_aside 6 (some .int) :: en_cw) (en_rm 2 (0, 0)) 0 k_X7_aside_0 :=
  en_main (X := x_X7_aside_0) (M := m_X7_aside_0) en_Pc_ok en_f32_ok en_f64_ok hl (by decide +kernel) ⟨en_FTX7_ok, en_PTX7_ok, en_ac (⟨yX7_isCell, RX7, cX7_isCell, 2, (some .boolean), by decide, ct_X7_isCell_0 hl, fun h => Bool.noConfusion h, fun _ => gc_RX7_106s⟩) (en_ac (⟨yX7_isThrown, RX7, cX7_isThrown, 3, (some .boolean), by decide, ct_X7_isThrown_0 hl, fun _ => ⟨gc_RX7_110v, by decide, _, rfl, rfl⟩, fun h => Bool.noConfusion h⟩) (en_ac (⟨yX7_isThrown, RX7, cX7_isThrown, 3, (some .boolean), by decide, ct_X7_isThrown_1 hl, fun _ => ⟨gc_RX7_110v, by decide, _, rfl, rfl⟩, fun h => Bool.noConfusion h⟩) (en_ac (⟨yX7_isThrown, RX7, cX7_isThrown, 3, (some .boolean), by decide, ct_X7_isThrown_2 hl, fun _ => ⟨gc_RX7_110v, by decide, _, rfl, rfl⟩, fun h => Bool.noConfusion h⟩) (en_ac (⟨yX7_isNoPlayer, RX7, cX7_isNoPlayer, 2, (some .boolean), by decide, ct_X7_isNoPlayer_0 hl, fun _ => ⟨gc_RX7_132v, by decide, _, rfl, rfl⟩, fun h => Bool.noConfusion h⟩) en_an)))), en_LTX7_ok, en_LLX7_ok, en_TTX7_ok hl, cw256, cw147⟩ de_X7_aside ck_X7_aside_0
def tb_X7_isFree : en_Tb := [
  (26, [(0, .aload_n 1, 1), (1, .iconst 0, 1), (2, .iaload, 1), (3, .bipush 108, 2), (5, .if_icmp .ne 20, 3), (8, .aload_n 1, 1), (9, .iconst 3, 1), (10, .iaload, 1), (11, .ifCond .ne 14, 3), (14, .aload_n 1, 1), (15, .bipush 13, 2), (17, .iaload, 1), (18, .ifCond .ne 7, 3), (21, .iconst 1, 1), (22, .goto 4, 3), (25, .iconst 0, 1)]), 
  (27, [(26, .ireturn, 1)])]
set_option maxRecDepth 40000 in
theorem de_X7_isFree : en_De tb_X7_isFree cX7_isFree := by
  unfold en_De
  decide +kernel
def k_X7_isFree_0 : en_K := (2, ([.inr (.inl 20), .inr (.inl 27)], [(5, 0, 0, 0, 0, 0)]), [([.inr (.inl 20), .inr (.inl 27), .inl (0, 0, 0, 0), .inl (0, 65535, 0, 0), .inl ((-2147483648), 2147483647, 0, 0), .inl (0, 65535, 0, 0), .inl ((-2147483648), 2147483647, 0, 0), .inl ((-2147483648), 2147483647, 0, 0), .inl (0, 1, 0, 0), .inl (0, 29, 0, 0), .inl (0, 19, 0, 0), .inl (0, 1, 0, 0), .inl (0, 29, 0, 0), .inl (0, 19, 0, 0), .inl (0, 29, 0, 0), .inl ((-2147483648), 2147483647, 0, 0), .inl (0, 19, 0, 0), .inl (0, 29, 0, 0), .inl (0, 19, 0, 0), .inl (0, 1, 0, 0)], [(1, 1, 0, 3, 0, 0), (1, 1, 1, 4, 0, 0), (1, 1, 10, 5, 0, 0), (1, 1, 11, 6, 0, 0), (1, 1, 12, 7, 0, 0), (1, 1, 13, 8, 0, 0), (1, 1, 14, 9, 0, 0), (1, 1, 15, 10, 0, 0), (1, 1, 16, 11, 0, 0), (1, 1, 17, 12, 0, 0), (1, 1, 18, 13, 0, 0), (1, 1, 19, 14, 0, 0), (1, 1, 2, 15, 0, 0), (1, 1, 20, 16, 0, 0), (1, 1, 4, 17, 0, 0), (1, 1, 5, 18, 0, 0), (1, 1, 9, 19, 0, 0), (3, 3, 4, 15, 108, 110), (3, 3, 17, 18, 108, 108), (3, 3, 17, 18, 115, 115), (3, 19, 17, 18, 1, 1), (3, 5, 6, 7, 108, 110), (3, 8, 9, 10, 1, 1), (3, 11, 12, 13, 1, 1), (3, 11, 14, 16, 1, 1), (5, 0, 0, 0, 0, 0)]), ([.inr (.inl 20), .inr (.inl 27), .inl (1, 1, 0, 0), .inl (108, 108, 0, 0), .inl (0, 29, 0, 0), .inl (0, 65535, 0, 0), .inl ((-2147483648), 2147483647, 0, 0), .inl ((-2147483648), 2147483647, 0, 0), .inl (0, 0, 0, 0), .inl (0, 29, 0, 0), .inl (0, 19, 0, 0), .inl (0, 1, 0, 0), .inl (0, 29, 0, 0), .inl (0, 19, 0, 0), .inl (0, 29, 0, 0), .inl (0, 19, 0, 0), .inl (0, 19, 0, 0), .inl (0, 0, 0, 0), .inl (0, 29, 0, 0), .inl (0, 19, 0, 0), .inl (0, 1, 0, 0)], [(1, 1, 0, 3, 0, 0), (1, 1, 1, 4, 0, 0), (1, 1, 10, 5, 0, 0), (1, 1, 11, 6, 0, 0), (1, 1, 12, 7, 0, 0), (1, 1, 13, 8, 0, 0), (1, 1, 14, 9, 0, 0), (1, 1, 15, 10, 0, 0), (1, 1, 16, 11, 0, 0), (1, 1, 17, 12, 0, 0), (1, 1, 18, 13, 0, 0), (1, 1, 19, 14, 0, 0), (1, 1, 2, 15, 0, 0), (1, 1, 20, 16, 0, 0), (1, 1, 3, 17, 0, 0), (1, 1, 4, 18, 0, 0), (1, 1, 5, 19, 0, 0), (1, 1, 9, 20, 0, 0), (2, 4, 15, 0, 0, 0), (2, 18, 19, 0, 0, 0), (3, 3, 4, 15, 108, 110), (3, 3, 18, 19, 108, 108), (3, 3, 18, 19, 115, 115), (3, 20, 18, 19, 1, 1), (3, 5, 6, 7, 108, 110), (3, 8, 9, 10, 1, 1), (3, 11, 12, 13, 1, 1), (3, 11, 14, 16, 1, 1), (5, 0, 0, 0, 0, 0)])], [], [27], (0, 0), [])
def u_X7_isFree_0 : List en_U := []
def x_X7_isFree_0 : en_Cx := ((en_KT0, en_TY0, en_om0), en_FTX7, en_PTX7, [], en_LTX7, en_LLX7, en_TTX7)
def m_X7_isFree_0 : en_Mx := (k_X7_isFree_0, 0, 2, (0, 2), tb_X7_isFree, [])
set_option maxRecDepth 100000 in
theorem ck_X7_isFree_0 : en_all x_X7_isFree_0 m_X7_isFree_0 u_X7_isFree_0 19 = true := by decide +kernel
theorem ct_X7_isFree_0 {l : Launch} (hl : l.stackTraces = false) {cx cy : Int32} : en_Ctr l vwCl en_TY0 (en_Pc cx cy) en_om0 (en_Oc cx cy) en_KT0 yX7_isFree (Cond.code yX7_isFree cX7_isFree 2 (some .boolean) :: en_cw) (en_rm 0 (0, 0)) 0 k_X7_isFree_0 :=
  en_main (X := x_X7_isFree_0) (M := m_X7_isFree_0) en_Pc_ok en_f32_ok en_f64_ok hl (by decide +kernel) ⟨en_FTX7_ok, en_PTX7_ok, en_an, en_LTX7_ok, en_LLX7_ok, en_TTX7_ok hl, cw256, cw147⟩ de_X7_isFree ck_X7_isFree_0
def tb_X7_kind : en_Tb := [
  (17, [(0, .aload_n 0, 1), (1, .getfield 16, 3), (4, .aload_n 0, 1), (5, .getfield 92, 3), (8, .aaload, 1), (9, .iload_n 2, 1), (10, .bipush 30, 2), (12, .imul, 1), (13, .iload_n 1, 1), (14, .iadd, 1), (15, .caload, 1), (16, .ireturn, 1)])]
set_option maxRecDepth 40000 in
theorem de_X7_kind : en_De tb_X7_kind cX7_kind := by
  unfold en_De
  decide +kernel
def k_X7_kind_0 : en_K := (3, ([.inr (.inl 20), .inl (0, 29, 0, 0), .inl (0, 19, 0, 0), .inl (0, 8, 0, 0)], [(0, 0, 25, 3, 0, 0), (5, 0, 0, 0, 0, 0)]), [([.inr (.inl 20), .inl (0, 29, 0, 0), .inl (0, 19, 0, 0), .inl (0, 65535, 0, 0)], [(5, 0, 0, 0, 0, 0)])], [], [20, 23, 24], (0, 0), [])
def u_X7_kind_0 : List en_U := []
def x_X7_kind_0 : en_Cx := ((en_KT0, en_TY0, en_om0), en_FTX7, en_PTX7, [], en_LTX7, en_LLX7, en_TTX7)
def m_X7_kind_0 : en_Mx := (k_X7_kind_0, 0, 3, (0, 1), tb_X7_kind, [])
set_option maxRecDepth 100000 in
theorem ck_X7_kind_0 : en_all x_X7_kind_0 m_X7_kind_0 u_X7_kind_0 15 = true := by decide +kernel
theorem ct_X7_kind_0 {l : Launch} (hl : l.stackTraces = false) {cx cy : Int32} : en_Ctr l vwCl en_TY0 (en_Pc cx cy) en_om0 (en_Oc cx cy) en_KT0 yX7_kind (Cond.code yX7_kind cX7_kind 3 (some .char) :: en_cw) (en_rm 0 (0, 0)) 0 k_X7_kind_0 :=
  en_main (X := x_X7_kind_0) (M := m_X7_kind_0) en_Pc_ok en_f32_ok en_f64_ok hl (by decide +kernel) ⟨en_FTX7_ok, en_PTX7_ok, en_an, en_LTX7_ok, en_LLX7_ok, en_TTX7_ok hl, cw256, cw147⟩ de_X7_kind ck_X7_kind_0
def tb_X7_far : en_Tb := [
  (16, [(0, .iload_n 0, 1), (1, .iload_n 2, 1), (2, .isub, 1), (3, .iload_n 0, 1), (4, .iload_n 2, 1), (5, .isub, 1), (6, .imul, 1), (7, .iload_n 1, 1), (8, .iload_n 3, 1), (9, .isub, 1), (10, .iload_n 1, 1), (11, .iload_n 3, 1), (12, .isub, 1), (13, .imul, 1), (14, .iadd, 1), (15, .ireturn, 1)])]
set_option maxRecDepth 40000 in
theorem de_X7_far : en_De tb_X7_far cX7_far := by
  unfold en_De
  decide +kernel
def k_X7_far_0 : en_K := (4, ([.inl ((-2147483648), 2147483647, 0, 0), .inl ((-2147483648), 2147483647, 0, 0), .inl ((-2147483648), 2147483647, 0, 0), .inl ((-2147483648), 2147483647, 0, 0)], [(5, 0, 0, 0, 0, 0)]), [([.inl ((-2147483648), 2147483647, 0, 0), .inl ((-2147483648), 2147483647, 0, 0), .inl ((-2147483648), 2147483647, 0, 0), .inl ((-2147483648), 2147483647, 0, 0), .inl ((-2147483648), 2147483647, 0, 0)], [(5, 0, 0, 0, 0, 0)])], [], [], (0, 0), [])
def u_X7_far_0 : List en_U := []
def x_X7_far_0 : en_Cx := ((en_KT0, en_TY0, en_om0), en_FTX7, en_PTX7, [], en_LTX7, en_LLX7, en_TTX7)
def m_X7_far_0 : en_Mx := (k_X7_far_0, 0, 4, (0, 0), tb_X7_far, [])
set_option maxRecDepth 100000 in
theorem ck_X7_far_0 : en_all x_X7_far_0 m_X7_far_0 u_X7_far_0 19 = true := by decide +kernel
theorem ct_X7_far_0 {l : Launch} (hl : l.stackTraces = false) {cx cy : Int32} : en_Ctr l vwCl en_TY0 (en_Pc cx cy) en_om0 (en_Oc cx cy) en_KT0 yX7_far (Cond.code yX7_far cX7_far 4 (some .int) :: en_cw) (en_rm 0 (0, 0)) 0 k_X7_far_0 :=
  en_main (X := x_X7_far_0) (M := m_X7_far_0) en_Pc_ok en_f32_ok en_f64_ok hl (by decide +kernel) ⟨en_FTX7_ok, en_PTX7_ok, en_an, en_LTX7_ok, en_LLX7_ok, en_TTX7_ok hl, cw256, cw147⟩ de_X7_far ck_X7_far_0
def tb_X7_cupX : en_Tb := [
  (12, [(0, .aload_n 0, 1), (1, .getfield 11, 3), (4, .aload_n 0, 1), (5, .getfield 92, 3), (8, .aaload, 1), (9, .iconst 2, 1), (10, .iaload, 1), (11, .ireturn, 1)])]
set_option maxRecDepth 40000 in
theorem de_X7_cupX : en_De tb_X7_cupX cX7_cupX := by
  unfold en_De
  decide +kernel
def k_X7_cupX_0 : en_K := (1, ([.inr (.inl 20), .inl (0, 8, 0, 0)], [(0, 0, 25, 1, 0, 0), (5, 0, 0, 0, 0, 0)]), [([.inr (.inl 20), .inl (0, 29, 0, 0)], [(5, 0, 0, 0, 0, 0)])], [], [20, 21, 22], (0, 0), [])
def u_X7_cupX_0 : List en_U := []
def x_X7_cupX_0 : en_Cx := ((en_KT0, en_TY0, en_om0), en_FTX7, en_PTX7, [], en_LTX7, en_LLX7, en_TTX7)
def m_X7_cupX_0 : en_Mx := (k_X7_cupX_0, 0, 1, (0, 0), tb_X7_cupX, [])
set_option maxRecDepth 100000 in
theorem ck_X7_cupX_0 : en_all x_X7_cupX_0 m_X7_cupX_0 u_X7_cupX_0 11 = true := by decide +kernel
theorem ct_X7_cupX_0 {l : Launch} (hl : l.stackTraces = false) {cx cy : Int32} : en_Ctr l vwCl en_TY0 (en_Pc cx cy) en_om0 (en_Oc cx cy) en_KT0 yX7_cupX (Cond.code yX7_cupX cX7_cupX 1 (some .int) :: en_cw) (en_rm 0 (0, 0)) 0 k_X7_cupX_0 :=
  en_main (X := x_X7_cupX_0) (M := m_X7_cupX_0) en_Pc_ok en_f32_ok en_f64_ok hl (by decide +kernel) ⟨en_FTX7_ok, en_PTX7_ok, en_an, en_LTX7_ok, en_LLX7_ok, en_TTX7_ok hl, cw256, cw147⟩ de_X7_cupX ck_X7_cupX_0
def tb_X7_cupY : en_Tb := [
  (12, [(0, .aload_n 0, 1), (1, .getfield 11, 3), (4, .aload_n 0, 1), (5, .getfield 92, 3), (8, .aaload, 1), (9, .iconst 3, 1), (10, .iaload, 1), (11, .ireturn, 1)])]
set_option maxRecDepth 40000 in
theorem de_X7_cupY : en_De tb_X7_cupY cX7_cupY := by
  unfold en_De
  decide +kernel
def k_X7_cupY_0 : en_K := (1, ([.inr (.inl 20), .inl (0, 8, 0, 0)], [(0, 0, 25, 1, 0, 0), (5, 0, 0, 0, 0, 0)]), [([.inr (.inl 20), .inl (0, 19, 0, 0)], [(5, 0, 0, 0, 0, 0)])], [], [20, 21, 22], (0, 0), [])
def u_X7_cupY_0 : List en_U := []
def x_X7_cupY_0 : en_Cx := ((en_KT0, en_TY0, en_om0), en_FTX7, en_PTX7, [], en_LTX7, en_LLX7, en_TTX7)
def m_X7_cupY_0 : en_Mx := (k_X7_cupY_0, 0, 1, (0, 0), tb_X7_cupY, [])
set_option maxRecDepth 100000 in
theorem ck_X7_cupY_0 : en_all x_X7_cupY_0 m_X7_cupY_0 u_X7_cupY_0 11 = true := by decide +kernel
theorem ct_X7_cupY_0 {l : Launch} (hl : l.stackTraces = false) {cx cy : Int32} : en_Ctr l vwCl en_TY0 (en_Pc cx cy) en_om0 (en_Oc cx cy) en_KT0 yX7_cupY (Cond.code yX7_cupY cX7_cupY 1 (some .int) :: en_cw) (en_rm 0 (0, 0)) 0 k_X7_cupY_0 :=
  en_main (X := x_X7_cupY_0) (M := m_X7_cupY_0) en_Pc_ok en_f32_ok en_f64_ok hl (by decide +kernel) ⟨en_FTX7_ok, en_PTX7_ok, en_an, en_LTX7_ok, en_LLX7_ok, en_TTX7_ok hl, cw256, cw147⟩ de_X7_cupY ck_X7_cupY_0
def tb_X7_toCup : en_Tb := [
  (14, [(0, .iload_n 1, 1), (1, .iload_n 2, 1), (2, .aload_n 0, 1), (3, .invokevirtual 95, 3), (6, .aload_n 0, 1), (7, .invokevirtual 99, 3), (10, .invokestatic 102, 3), (13, .ireturn, 1)])]
set_option maxRecDepth 40000 in
theorem de_X7_toCup : en_De tb_X7_toCup cX7_toCup := by
  unfold en_De
  decide +kernel
def k_X7_toCup_0 : en_K := (3, ([.inr (.inl 20), .inl ((-2147483648), 2147483647, 0, 0), .inl ((-2147483648), 2147483647, 0, 0), .inl (0, 8, 0, 0)], [(0, 0, 25, 3, 0, 0), (5, 0, 0, 0, 0, 0)]), [([.inr (.inl 20), .inl ((-2147483648), 2147483647, 0, 0), .inl ((-2147483648), 2147483647, 0, 0), .inl ((-2147483648), 2147483647, 0, 0)], [(5, 0, 0, 0, 0, 0)])], [], [20, 21, 22], (0, 0), [])
def u_X7_toCup_0 : List en_U := []
def x_X7_toCup_0 : en_Cx := ((en_KT0, en_TY0, en_om0), en_FTX7, en_PTX7, [(95, true, 13, 0, 0, k_X7_cupX_0), (99, true, 13, 0, 0, k_X7_cupY_0), (102, false, 0, 0, 0, k_X7_far_0)], en_LTX7, en_LLX7, en_TTX7)
def m_X7_toCup_0 : en_Mx := (k_X7_toCup_0, 1, 3, (0, 0), tb_X7_toCup, [])
set_option maxRecDepth 100000 in
theorem ck_X7_toCup_0 : en_all x_X7_toCup_0 m_X7_toCup_0 u_X7_toCup_0 11 = true := by decide +kernel
theorem ct_X7_toCup_0 {l : Launch} (hl : l.stackTraces = false) {cx cy : Int32} : en_Ctr l vwCl en_TY0 (en_Pc cx cy) en_om0 (en_Oc cx cy) en_KT0 yX7_toCup (Cond.code yX7_toCup cX7_toCup 3 (some .int) :: en_cw) (en_rm 1 (0, 0)) 0 k_X7_toCup_0 :=
  en_main (X := x_X7_toCup_0) (M := m_X7_toCup_0) en_Pc_ok en_f32_ok en_f64_ok hl (by decide +kernel) ⟨en_FTX7_ok, en_PTX7_ok, en_ac (⟨yX7_cupX, RX7, cX7_cupX, 1, (some .int), by decide, ct_X7_cupX_0 hl, fun _ => ⟨gc_RX7_95v, by decide, _, rfl, rfl⟩, fun h => Bool.noConfusion h⟩) (en_ac (⟨yX7_cupY, RX7, cX7_cupY, 1, (some .int), by decide, ct_X7_cupY_0 hl, fun _ => ⟨gc_RX7_99v, by decide, _, rfl, rfl⟩, fun h => Bool.noConfusion h⟩) (en_ac (⟨yX7_far, RX7, cX7_far, 4, (some .int), by decide, ct_X7_far_0 hl, fun h => Bool.noConfusion h, fun _ => gc_RX7_102s⟩) en_an)), en_LTX7_ok, en_LLX7_ok, en_TTX7_ok hl, cw256, cw147⟩ de_X7_toCup ck_X7_toCup_0
def k_X7_isIn_8 : en_K := (3, ([.inl (0, 29, 0, 0), .inl (0, 0, 0, 0), .inl (29, 29, 0, 0)], [(5, 0, 0, 0, 0, 0)]), [([.inl (0, 29, 0, 0), .inl (0, 0, 0, 0), .inl (29, 29, 0, 0), .inl (1, 1, 0, 0)], [(5, 0, 0, 0, 0, 0)])], [], [], (0, 0), [])
def u_X7_isIn_8 : List en_U := []
def x_X7_isIn_8 : en_Cx := ((en_KT0, en_TY0, en_om0), en_FTX7, en_PTX7, [], en_LTX7, en_LLX7, en_TTX7)
def m_X7_isIn_8 : en_Mx := (k_X7_isIn_8, 0, 3, (0, 2), tb_X7_isIn, [])
set_option maxRecDepth 100000 in
theorem ck_X7_isIn_8 : en_all x_X7_isIn_8 m_X7_isIn_8 u_X7_isIn_8 12 = true := by decide +kernel
theorem ct_X7_isIn_8 {l : Launch} (hl : l.stackTraces = false) {cx cy : Int32} : en_Ctr l vwCl en_TY0 (en_Pc cx cy) en_om0 (en_Oc cx cy) en_KT0 yX7_isIn (Cond.code yX7_isIn cX7_isIn 3 (some .boolean) :: en_cw) (en_rm 0 (0, 0)) 0 k_X7_isIn_8 :=
  en_main (X := x_X7_isIn_8) (M := m_X7_isIn_8) en_Pc_ok en_f32_ok en_f64_ok hl (by decide +kernel) ⟨en_FTX7_ok, en_PTX7_ok, en_an, en_LTX7_ok, en_LLX7_ok, en_TTX7_ok hl, cw256, cw147⟩ de_X7_isIn ck_X7_isIn_8
def k_X7_isIn_9 : en_K := (3, ([.inl (0, 19, 0, 0), .inl (0, 0, 0, 0), .inl (19, 19, 0, 0)], [(5, 0, 0, 0, 0, 0)]), [([.inl (0, 19, 0, 0), .inl (0, 0, 0, 0), .inl (19, 19, 0, 0), .inl (1, 1, 0, 0)], [(5, 0, 0, 0, 0, 0)])], [], [], (0, 0), [])
def u_X7_isIn_9 : List en_U := []
def x_X7_isIn_9 : en_Cx := ((en_KT0, en_TY0, en_om0), en_FTX7, en_PTX7, [], en_LTX7, en_LLX7, en_TTX7)
def m_X7_isIn_9 : en_Mx := (k_X7_isIn_9, 0, 3, (0, 2), tb_X7_isIn, [])
set_option maxRecDepth 100000 in
theorem ck_X7_isIn_9 : en_all x_X7_isIn_9 m_X7_isIn_9 u_X7_isIn_9 12 = true := by decide +kernel
theorem ct_X7_isIn_9 {l : Launch} (hl : l.stackTraces = false) {cx cy : Int32} : en_Ctr l vwCl en_TY0 (en_Pc cx cy) en_om0 (en_Oc cx cy) en_KT0 yX7_isIn (Cond.code yX7_isIn cX7_isIn 3 (some .boolean) :: en_cw) (en_rm 0 (0, 0)) 0 k_X7_isIn_9 :=
  en_main (X := x_X7_isIn_9) (M := m_X7_isIn_9) en_Pc_ok en_f32_ok en_f64_ok hl (by decide +kernel) ⟨en_FTX7_ok, en_PTX7_ok, en_an, en_LTX7_ok, en_LLX7_ok, en_TTX7_ok hl, cw256, cw147⟩ de_X7_isIn ck_X7_isIn_9
