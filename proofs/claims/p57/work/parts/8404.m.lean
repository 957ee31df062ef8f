def k_X7_isIn_2 : en_K := (3, ([.inl ((-2147483648), 2147483647, 0, 0), .inl (0, 0, 0, 0), .inl (29, 29, 0, 0)], []), [([.inl ((-2147483648), 2147483647, 0, 0), .inl (0, 0, 0, 0), .inl (29, 29, 0, 0), .inl (0, 0, 0, 0)], []), ([.inl (0, 29, 0, 0), .inl (0, 0, 0, 0), .inl (29, 29, 0, 0), .inl (1, 1, 0, 0)], [])], [], [], (0, 0), [])
def u_X7_isIn_2 : List en_U := []
def x_X7_isIn_2 : en_Cx := ((en_KT, en_TY0, en_om0), en_FTX7, en_PTX7, [], en_LTX7, en_LLX7, en_TTX7, en_ACX7)
def m_X7_isIn_2 : en_Mx := (k_X7_isIn_2, 0, 3, (0, 2), tb_X7_isIn, [])
set_option maxRecDepth 100000 in
theorem ck_X7_isIn_2 : en_all x_X7_isIn_2 m_X7_isIn_2 u_X7_isIn_2 12 = true := by decide +kernel
theorem ct_X7_isIn_2 {l : Launch} (hl : l.stackTraces = false) {cx cy : Int32} : en_Ctr l vwCl en_TY0 (en_Pc cx cy) en_om0 (en_Of cx cy) en_KT yX7_isIn (Cond.code yX7_isIn cX7_isIn 3 (some .boolean) :: en_cw) (en_rm 0 (0, 0)) 0 k_X7_isIn_2 :=
  en_main (X := x_X7_isIn_2) (M := m_X7_isIn_2) en_Pc_ok en_f32_ok en_f64_ok hl (by decide +kernel) ⟨en_FTX7_ok, en_PTX7_ok, en_an, en_LTX7_ok, en_LLX7_ok, en_TTX7_ok hl, ⟨cw256, cw147⟩, en_ACX7_ok⟩ de_X7_isIn ck_X7_isIn_2
def k_X7_isIn_3 : en_K := (3, ([.inl ((-2147483648), 2147483647, 0, 0), .inl (0, 0, 0, 0), .inl (19, 19, 0, 0)], []), [([.inl ((-2147483648), 2147483647, 0, 0), .inl (0, 0, 0, 0), .inl (19, 19, 0, 0), .inl (0, 0, 0, 0)], []), ([.inl (0, 19, 0, 0), .inl (0, 0, 0, 0), .inl (19, 19, 0, 0), .inl (1, 1, 0, 0)], [])], [], [], (0, 0), [])
def u_X7_isIn_3 : List en_U := []
def x_X7_isIn_3 : en_Cx := ((en_KT, en_TY0, en_om0), en_FTX7, en_PTX7, [], en_LTX7, en_LLX7, en_TTX7, en_ACX7)
def m_X7_isIn_3 : en_Mx := (k_X7_isIn_3, 0, 3, (0, 2), tb_X7_isIn, [])
set_option maxRecDepth 100000 in
theorem ck_X7_isIn_3 : en_all x_X7_isIn_3 m_X7_isIn_3 u_X7_isIn_3 12 = true := by decide +kernel
theorem ct_X7_isIn_3 {l : Launch} (hl : l.stackTraces = false) {cx cy : Int32} : en_Ctr l vwCl en_TY0 (en_Pc cx cy) en_om0 (en_Of cx cy) en_KT yX7_isIn (Cond.code yX7_isIn cX7_isIn 3 (some .boolean) :: en_cw) (en_rm 0 (0, 0)) 0 k_X7_isIn_3 :=
  en_main (X := x_X7_isIn_3) (M := m_X7_isIn_3) en_Pc_ok en_f32_ok en_f64_ok hl (by decide +kernel) ⟨en_FTX7_ok, en_PTX7_ok, en_an, en_LTX7_ok, en_LLX7_ok, en_TTX7_ok hl, ⟨cw256, cw147⟩, en_ACX7_ok⟩ de_X7_isIn ck_X7_isIn_3
def tb_X7_isCell : en_Tb := [
  (26, [(0, .iload_n 0, 1), (1, .iconst 0, 1), (2, .bipush 29, 2), (4, .invokestatic 82, 3), (7, .ifCond .eq 17, 3), (10, .iload_n 1, 1), (11, .iconst 0, 1), (12, .bipush 19, 2), (14, .invokestatic 82, 3), (17, .ifCond .eq 7, 3), (20, .iconst 1, 1), (21, .goto 4, 3), (24, .iconst 0, 1), (25, .ireturn, 1)])]
set_option maxRecDepth 40000 in
theorem de_X7_isCell : en_De tb_X7_isCell cX7_isCell := by
  unfold en_De
  decide +kernel
def k_X7_isCell_0 : en_K := (2, ([.inl ((-2147483648), 2147483647, 0, 0), .inl ((-2147483648), 2147483647, 0, 0)], []), [([.inl ((-2147483648), 2147483647, 0, 0), .inl ((-2147483648), 2147483647, 0, 0), .inl (0, 0, 0, 0)], []), ([.inl (0, 29, 0, 0), .inl (0, 19, 0, 0), .inl (1, 1, 0, 0)], [])], [], [], (0, 0), [])
def u_X7_isCell_0 : List en_U := []
def x_X7_isCell_0 : en_Cx := ((en_KT, en_TY0, en_om0), en_FTX7, en_PTX7, [(82, false, 0, 0, 0, k_X7_isIn_2), (82, false, 0, 0, 0, k_X7_isIn_3)], en_LTX7, en_LLX7, en_TTX7, en_ACX7)
def m_X7_isCell_0 : en_Mx := (k_X7_isCell_0, 1, 2, (0, 2), tb_X7_isCell, [])
set_option maxRecDepth 100000 in
theorem ck_X7_isCell_0 : en_all x_X7_isCell_0 m_X7_isCell_0 u_X7_isCell_0 16 = true := by decide +kernel
theorem ct_X7_isCell_0 {l : Launch} (hl : l.stackTraces = false) {cx cy : Int32} : en_Ctr l vwCl en_TY0 (en_Pc cx cy) en_om0 (en_Of cx cy) en_KT yX7_isCell (Cond.code yX7_isCell cX7_isCell 2 (some .boolean) :: en_cw) (en_rm 1 (0, 0)) 0 k_X7_isCell_0 :=
  en_main (X := x_X7_isCell_0) (M := m_X7_isCell_0) en_Pc_ok en_f32_ok en_f64_ok hl (by decide +kernel) ⟨en_FTX7_ok, en_PTX7_ok, en_ac (⟨yX7_isIn, RX7, cX7_isIn, 3, (some .boolean), by decide, ct_X7_isIn_2 hl, fun h => Bool.noConfusion h, fun _ => gc_RX7_82s⟩) (en_ac (⟨yX7_isIn, RX7, cX7_isIn, 3, (some .boolean), by decide, ct_X7_isIn_3 hl, fun h => Bool.noConfusion h, fun _ => gc_RX7_82s⟩) en_an), en_LTX7_ok, en_LLX7_ok, en_TTX7_ok hl, ⟨cw256, cw147⟩, en_ACX7_ok⟩ de_X7_isCell ck_X7_isCell_0
def k_X7_isIn_4 : en_K := (3, ([.inl ((-2147483648), 2147483647, 0, 0), .inl (0, 0, 0, 0), .inl ((-1), 8, 0, 0)], []), [([.inl ((-2147483648), 2147483647, 0, 0), .inl (0, 0, 0, 0), .inl ((-1), 8, 0, 0), .inl (0, 0, 0, 0)], []), ([.inl (0, 8, 0, 0), .inl (0, 0, 0, 0), .inl (0, 8, 0, 0), .inl (1, 1, 0, 0)], [])], [], [], (0, 0), [])
def u_X7_isIn_4 : List en_U := []
def x_X7_isIn_4 : en_Cx := ((en_KT, en_TY0, en_om0), en_FTX7, en_PTX7, [], en_LTX7, en_LLX7, en_TTX7, en_ACX7)
def m_X7_isIn_4 : en_Mx := (k_X7_isIn_4, 0, 3, (0, 2), tb_X7_isIn, [])
set_option maxRecDepth 100000 in
theorem ck_X7_isIn_4 : en_all x_X7_isIn_4 m_X7_isIn_4 u_X7_isIn_4 12 = true := by decide +kernel
theorem ct_X7_isIn_4 {l : Launch} (hl : l.stackTraces = false) {cx cy : Int32} : en_Ctr l vwCl en_TY0 (en_Pc cx cy) en_om0 (en_Of cx cy) en_KT yX7_isIn (Cond.code yX7_isIn cX7_isIn 3 (some .boolean) :: en_cw) (en_rm 0 (0, 0)) 0 k_X7_isIn_4 :=
  en_main (X := x_X7_isIn_4) (M := m_X7_isIn_4) en_Pc_ok en_f32_ok en_f64_ok hl (by decide +kernel) ⟨en_FTX7_ok, en_PTX7_ok, en_an, en_LTX7_ok, en_LLX7_ok, en_TTX7_ok hl, ⟨cw256, cw147⟩, en_ACX7_ok⟩ de_X7_isIn ck_X7_isIn_4
def tb_X7_isNoHole : en_Tb := [
  (20, [(0, .iload_n 1, 1), (1, .iconst 0, 1), (2, .aload_n 0, 1), (3, .getfield 86, 3), (6, .iconst 1, 1), (7, .isub, 1), (8, .invokestatic 82, 3), (11, .ifCond .ne 7, 3), (14, .iconst 1, 1), (15, .goto 4, 3), (18, .iconst 0, 1), (19, .ireturn, 1)])]
set_option maxRecDepth 40000 in
theorem de_X7_isNoHole : en_De tb_X7_isNoHole cX7_isNoHole := by
  unfold en_De
  decide +kernel
def k_X7_isNoHole_0 : en_K := (2, ([.inr (.inl 20), .inl ((-2147483648), 2147483647, 0, 0)], []), [([.inr (.inl 20), .inl (0, 8, 0, 0), .inl (0, 0, 0, 0), .inl (1, 9, 0, 0)], [(0, 0, 16, 3, 0, 0)]), ([.inr (.inl 20), .inl ((-2147483648), 2147483647, 0, 0), .inl (1, 1, 0, 0)], [])], [], [20], (0, 0), [])
def u_X7_isNoHole_0 : List en_U := []
def x_X7_isNoHole_0 : en_Cx := ((en_KT, en_TY0, en_om0), en_FTX7, en_PTX7, [(82, false, 0, 0, 0, k_X7_isIn_4)], en_LTX7, en_LLX7, en_TTX7, en_ACX7)
def m_X7_isNoHole_0 : en_Mx := (k_X7_isNoHole_0, 1, 2, (0, 2), tb_X7_isNoHole, [])
set_option maxRecDepth 100000 in
theorem ck_X7_isNoHole_0 : en_all x_X7_isNoHole_0 m_X7_isNoHole_0 u_X7_isNoHole_0 14 = true := by decide +kernel
theorem ct_X7_isNoHole_0 {l : Launch} (hl : l.stackTraces = false) {cx cy : Int32} : en_Ctr l vwCl en_TY0 (en_Pc cx cy) en_om0 (en_Of cx cy) en_KT yX7_isNoHole (Cond.code yX7_isNoHole cX7_isNoHole 2 (some .boolean) :: en_cw) (en_rm 1 (0, 0)) 0 k_X7_isNoHole_0 :=
  en_main (X := x_X7_isNoHole_0) (M := m_X7_isNoHole_0) en_Pc_ok en_f32_ok en_f64_ok hl (by decide +kernel) ⟨en_FTX7_ok, en_PTX7_ok, en_ac (⟨yX7_isIn, RX7, cX7_isIn, 3, (some .boolean), by decide, ct_X7_isIn_4 hl, fun h => Bool.noConfusion h, fun _ => gc_RX7_82s⟩) en_an, en_LTX7_ok, en_LLX7_ok, en_TTX7_ok hl, ⟨cw256, cw147⟩, en_ACX7_ok⟩ de_X7_isNoHole ck_X7_isNoHole_0
def k_X7_isThrown_8 : en_K := (3, ([.inr (.inl 20), .inl (0, 0, 0, 0), .inl (2, 2, 0, 0)], []), [([.inr (.inl 20), .inl (0, 0, 0, 0), .inl (2, 2, 0, 0), .inl (0, 0, 0, 0)], [])], [(20, 30)], [20], (0, 0), [])
def u_X7_isThrown_8 : List en_U := []
def x_X7_isThrown_8 : en_Cx := ((en_KT, en_TY0, en_om0), en_FTX7, en_PTX7, [], en_LTX7, en_LLX7, en_TTX7, en_ACX7)
def m_X7_isThrown_8 : en_Mx := (k_X7_isThrown_8, 0, 3, (0, 2), tb_X7_isThrown, [])
set_option maxRecDepth 100000 in
theorem ck_X7_isThrown_8 : en_all x_X7_isThrown_8 m_X7_isThrown_8 u_X7_isThrown_8 10 = true := by decide +kernel
theorem ct_X7_isThrown_8 {l : Launch} (hl : l.stackTraces = false) {cx cy : Int32} : en_Ctr l vwCl en_TY0 (en_Pc cx cy) en_om0 (en_Of cx cy) en_KT yX7_isThrown (Cond.code yX7_isThrown cX7_isThrown 3 (some .boolean) :: en_cw) (en_rm 0 (0, 0)) 0 k_X7_isThrown_8 :=
  en_main (X := x_X7_isThrown_8) (M := m_X7_isThrown_8) en_Pc_ok en_f32_ok en_f64_ok hl (by decide +kernel) ⟨en_FTX7_ok, en_PTX7_ok, en_an, en_LTX7_ok, en_LLX7_ok, en_TTX7_ok hl, ⟨cw256, cw147⟩, en_ACX7_ok⟩ de_X7_isThrown ck_X7_isThrown_8
def k_X7_isThrown_9 : en_K := (3, ([.inr (.inl 20), .inl (1, 1, 0, 0), .inl (3, 3, 0, 0)], []), [([.inr (.inl 20), .inl (1, 1, 0, 0), .inl (3, 3, 0, 0), .inl (1, 1, 0, 0)], [(0, 0, 30, 2, 0, 0), (6, 1, 0, 0, 0, 0)])], [(20, 30)], [20], (0, 0), [])
def u_X7_isThrown_9 : List en_U := []
def x_X7_isThrown_9 : en_Cx := ((en_KT, en_TY0, en_om0), en_FTX7, en_PTX7, [], en_LTX7, en_LLX7, en_TTX7, en_ACX7)
def m_X7_isThrown_9 : en_Mx := (k_X7_isThrown_9, 0, 3, (0, 2), tb_X7_isThrown, [])
set_option maxRecDepth 100000 in
theorem ck_X7_isThrown_9 : en_all x_X7_isThrown_9 m_X7_isThrown_9 u_X7_isThrown_9 11 = true := by decide +kernel
theorem ct_X7_isThrown_9 {l : Launch} (hl : l.stackTraces = false) {cx cy : Int32} : en_Ctr l vwCl en_TY0 (en_Pc cx cy) en_om0 (en_Of cx cy) en_KT yX7_isThrown (Cond.code yX7_isThrown cX7_isThrown 3 (some .boolean) :: en_cw) (en_rm 0 (0, 0)) 0 k_X7_isThrown_9 :=
  en_main (X := x_X7_isThrown_9) (M := m_X7_isThrown_9) en_Pc_ok en_f32_ok en_f64_ok hl (by decide +kernel) ⟨en_FTX7_ok, en_PTX7_ok, en_an, en_LTX7_ok, en_LLX7_ok, en_TTX7_ok hl, ⟨cw256, cw147⟩, en_ACX7_ok⟩ de_X7_isThrown ck_X7_isThrown_9
def tb_X7_area : en_Tb := [
  (35, [(0, .iload_n 2, 1), (1, .invokestatic 124, 3), (4, .ifCond .eq 39, 3), (7, .iload_n 3, 1), (8, .iload 4, 2), (10, .invokestatic 106, 3), (13, .ifCond .eq 30, 3), (16, .iload 5, 2), (18, .iload 6, 2), (20, .invokestatic 106, 3), (23, .ifCond .eq 20, 3), (26, .iload_n 3, 1), (27, .iload 5, 2), (29, .if_icmp .gt 14, 3), (32, .iload 4, 2), (34, .iload 6, 2)]), 
  (66, [(36, .if_icmp .gt 7, 3), (39, .iconst 1, 1), (40, .goto 4, 3), (43, .iconst 0, 1), (44, .istore 7, 2), (46, .aload_n 0, 1), (47, .aload_n 0, 1), (48, .iload_n 1, 1), (49, .invokevirtual 128, 3), (52, .iconst 1, 1), (53, .invokevirtual 110, 3), (56, .ifCond .ne 55, 3), (59, .aload_n 0, 1), (60, .iload 7, 2), (62, .ifCond .ne 7, 3), (65, .iconst 1, 1)]), 
  (94, [(66, .goto 4, 3), (69, .iconst 0, 1), (70, .iconst 2, 1), (71, .invokevirtual 110, 3), (74, .ifCond .ne 37, 3), (77, .aload_n 0, 1), (78, .aload_n 0, 1), (79, .getfield 11, 3), (82, .iload_n 1, 1), (83, .aaload, 1), (84, .bipush 6, 2), (86, .iaload, 1), (87, .bipush 12, 2), (89, .if_icmp .eq 10, 3), (92, .aload_n 0, 1), (93, .getfield 114, 3)]), 
  (126, [(96, .ifCond .eq 7, 3), (99, .iconst 1, 1), (100, .goto 4, 3), (103, .iconst 0, 1), (104, .iconst 3, 1), (105, .invokevirtual 110, 3), (108, .ifCond .eq 5, 3), (111, .iconst 0, 1), (112, .ireturn, 1), (113, .iload 4, 2), (115, .istore 8, 2), (117, .iload 8, 2), (119, .iload 6, 2), (121, .if_icmp .gt 41, 3), (124, .iload_n 3, 1), (125, .istore 9, 2)]), 
  (154, [(127, .iload 9, 2), (129, .iload 5, 2), (131, .if_icmp .gt 25, 3), (134, .aload_n 0, 1), (135, .getfield 16, 3), (138, .iload_n 1, 1), (139, .aaload, 1), (140, .iload 8, 2), (142, .bipush 30, 2), (144, .imul, 1), (145, .iload 9, 2), (147, .iadd, 1), (148, .iload_n 2, 1), (149, .castore, 1), (150, .iinc 9 1, 3), (153, .goto (-26), 3)]), 
  (181, [(156, .iinc 8 1, 3), (159, .goto (-42), 3), (162, .aload_n 0, 1), (163, .getfield 11, 3), (166, .iload_n 1, 1), (167, .aaload, 1), (168, .bipush 6, 2), (170, .dup2, 1), (171, .iaload, 1), (172, .iconst 1, 1), (173, .iadd, 1), (174, .iastore, 1), (175, .aload_n 0, 1), (176, .getfield 11, 3), (179, .iload_n 1, 1), (180, .aaload, 1)]), 
  (185, [(181, .bipush 6, 2), (183, .iaload, 1), (184, .ireturn, 1)])]
set_option maxRecDepth 40000 in
theorem de_X7_area : en_De tb_X7_area cX7_area := by
  unfold en_De
  decide +kernel
def k_X7_area_0 : en_K := (7, ([.inr (.inl 20), .inl ((-2147483648), 2147483647, 0, 0), .inl (0, 65535, 0, 0), .inl ((-2147483648), 2147483647, 0, 0), .inl ((-2147483648), 2147483647, 0, 0), .inl ((-2147483648), 2147483647, 0, 0), .inl ((-2147483648), 2147483647, 0, 0), .inl (1, 1, 0, 0)], [(0, 0, 21, 7, 0, 0)]), [([.inr (.inl 20), .inl ((-2147483648), 2147483647, 0, 0), .inl (0, 65535, 0, 0), .inl ((-2147483648), 2147483647, 0, 0), .inl ((-2147483648), 2147483647, 0, 0), .inl ((-2147483648), 2147483647, 0, 0), .inl ((-2147483648), 2147483647, 0, 0), .inl (0, 0, 0, 0)], [])], [(20, 30), (43, 0)], [20, 21, 22, 43], (1, 9), [])
def u_X7_area_0 : List en_U := []
def x_X7_area_0 : en_Cx := ((en_KT, en_TY0, en_om0), en_FTX7, en_PTX7, [(106, false, 0, 0, 1, k_X7_isCell_0), (110, true, 13, 0, 0, k_X7_isThrown_0), (110, true, 13, 0, 0, k_X7_isThrown_1), (110, true, 13, 0, 0, k_X7_isThrown_2), (110, true, 13, 0, 0, k_X7_isThrown_8), (110, true, 13, 0, 0, k_X7_isThrown_9), (124, false, 0, 0, 0, k_X7_isKind_0), (128, true, 13, 0, 1, k_X7_isNoHole_0)], en_LTX7, en_LLX7, en_TTX7, en_ACX7)
def m_X7_area_0 : en_Mx := (k_X7_area_0, 2, 10, (0, 0), tb_X7_area, [])
set_option maxRecDepth 100000 in
theorem ck_X7_area_0 : en_all x_X7_area_0 m_X7_area_0 u_X7_area_0 56 = true := by decide +kernel
theorem ct_X7_area_0 {l : Launch} (hl : l.stackTraces = false) {cx cy : Int32} : en_Ctr l vwCl en_TY0 (en_Pc cx cy) en_om0 (en_Of cx cy) en_KT yX7_area (Cond.code yX7_area cX7_area 10 (some .int) :: en_cw) (en_rm 2 (1, 9)) 0 k_X7_area_0 :=
  en_main (X := x_X7_area_0) (M := m_X7_area_0) en_Pc_ok en_f32_ok en_f64_ok hl (by decide +kernel) ⟨en_FTX7_ok, en_PTX7_ok, en_ac (⟨yX7_isCell, RX7, cX7_isCell, 2, (some .boolean), by decide, ct_X7_isCell_0 hl, fun h => Bool.noConfusion h, fun _ => gc_RX7_106s⟩) (en_ac (⟨yX7_isThrown, RX7, cX7_isThrown, 3, (some .boolean), by decide, ct_X7_isThrown_0 hl, fun _ => ⟨gc_RX7_110v, by decide, _, rfl, rfl⟩, fun h => Bool.noConfusion h⟩) (en_ac (⟨yX7_isThrown, RX7, cX7_isThrown, 3, (some .boolean), by decide, ct_X7_isThrown_1 hl, fun _ => ⟨gc_RX7_110v, by decide, _, rfl, rfl⟩, fun h => Bool.noConfusion h⟩) (en_ac (⟨yX7_isThrown, RX7, cX7_isThrown, 3, (some .boolean), by decide, ct_X7_isThrown_2 hl, fun _ => ⟨gc_RX7_110v, by decide, _, rfl, rfl⟩, fun h => Bool.noConfusion h⟩) (en_ac (⟨yX7_isThrown, RX7, cX7_isThrown, 3, (some .boolean), by decide, ct_X7_isThrown_8 hl, fun _ => ⟨gc_RX7_110v, by decide, _, rfl, rfl⟩, fun h => Bool.noConfusion h⟩) (en_ac (⟨yX7_isThrown, RX7, cX7_isThrown, 3, (some .boolean), by decide, ct_X7_isThrown_9 hl, fun _ => ⟨gc_RX7_110v, by decide, _, rfl, rfl⟩, fun h => Bool.noConfusion h⟩) (en_ac (⟨yX7_isKind, RX7, cX7_isKind, 6, (some .boolean), by decide, ct_X7_isKind_0 hl, fun h => Bool.noConfusion h, fun _ => gc_RX7_124s⟩) (en_ac (⟨yX7_isNoHole, RX7, cX7_isNoHole, 2, (some .boolean), by decide, ct_X7_isNoHole_0 hl, fun _ => ⟨gc_RX7_128v, by decide, _, rfl, rfl⟩, fun h => Bool.noConfusion h⟩) en_an))))))), en_LTX7_ok, en_LLX7_ok, en_TTX7_ok hl, ⟨cw256, cw147⟩, en_ACX7_ok⟩ de_X7_area ck_X7_area_0
def k_X7_isIn_5 : en_K := (3, ([.inl ((-2147483648), (-1), 0, 0), .inl (0, 0, 0, 0), .inl ((-1), 8, 0, 0)], []), [([.inl ((-2147483648), (-1), 0, 0), .inl (0, 0, 0, 0), .inl ((-1), 8, 0, 0), .inl (0, 0, 0, 0)], [])], [], [], (0, 0), [])
def u_X7_isIn_5 : List en_U := []
def x_X7_isIn_5 : en_Cx := ((en_KT, en_TY0, en_om0), en_FTX7, en_PTX7, [], en_LTX7, en_LLX7, en_TTX7, en_ACX7)
def m_X7_isIn_5 : en_Mx := (k_X7_isIn_5, 0, 3, (0, 2), tb_X7_isIn, [])
set_option maxRecDepth 100000 in
theorem ck_X7_isIn_5 : en_all x_X7_isIn_5 m_X7_isIn_5 u_X7_isIn_5 8 = true := by decide +kernel
theorem ct_X7_isIn_5 {l : Launch} (hl : l.stackTraces = false) {cx cy : Int32} : en_Ctr l vwCl en_TY0 (en_Pc cx cy) en_om0 (en_Of cx cy) en_KT yX7_isIn (Cond.code yX7_isIn cX7_isIn 3 (some .boolean) :: en_cw) (en_rm 0 (0, 0)) 0 k_X7_isIn_5 :=
  en_main (X := x_X7_isIn_5) (M := m_X7_isIn_5) en_Pc_ok en_f32_ok en_f64_ok hl (by decide +kernel) ⟨en_FTX7_ok, en_PTX7_ok, en_an, en_LTX7_ok, en_LLX7_ok, en_TTX7_ok hl, ⟨cw256, cw147⟩, en_ACX7_ok⟩ de_X7_isIn ck_X7_isIn_5
def k_X7_isNoHole_1 : en_K := (2, ([.inr (.inl 20), .inl ((-2147483648), (-1), 0, 0)], []), [([.inr (.inl 20), .inl ((-2147483648), (-1), 0, 0), .inl (1, 1, 0, 0)], [])], [], [20], (0, 0), [])
def u_X7_isNoHole_1 : List en_U := []
def x_X7_isNoHole_1 : en_Cx := ((en_KT, en_TY0, en_om0), en_FTX7, en_PTX7, [(82, false, 0, 0, 0, k_X7_isIn_5)], en_LTX7, en_LLX7, en_TTX7, en_ACX7)
def m_X7_isNoHole_1 : en_Mx := (k_X7_isNoHole_1, 1, 2, (0, 2), tb_X7_isNoHole, [])
set_option maxRecDepth 100000 in
theorem ck_X7_isNoHole_1 : en_all x_X7_isNoHole_1 m_X7_isNoHole_1 u_X7_isNoHole_1 14 = true := by decide +kernel
theorem ct_X7_isNoHole_1 {l : Launch} (hl : l.stackTraces = false) {cx cy : Int32} : en_Ctr l vwCl en_TY0 (en_Pc cx cy) en_om0 (en_Of cx cy) en_KT yX7_isNoHole (Cond.code yX7_isNoHole cX7_isNoHole 2 (some .boolean) :: en_cw) (en_rm 1 (0, 0)) 0 k_X7_isNoHole_1 :=
  en_main (X := x_X7_isNoHole_1) (M := m_X7_isNoHole_1) en_Pc_ok en_f32_ok en_f64_ok hl (by decide +kernel) ⟨en_FTX7_ok, en_PTX7_ok, en_ac (⟨yX7_isIn, RX7, cX7_isIn, 3, (some .boolean), by decide, ct_X7_isIn_5 hl, fun h => Bool.noConfusion h, fun _ => gc_RX7_82s⟩) en_an, en_LTX7_ok, en_LLX7_ok, en_TTX7_ok hl, ⟨cw256, cw147⟩, en_ACX7_ok⟩ de_X7_isNoHole ck_X7_isNoHole_1
def k_X7_area_1 : en_K := (7, ([.inr (.inl 20), .inl ((-2147483648), (-1), 0, 0), .inl (0, 65535, 0, 0), .inl ((-2147483648), 2147483647, 0, 0), .inl ((-2147483648), 2147483647, 0, 0), .inl ((-2147483648), 2147483647, 0, 0), .inl ((-2147483648), 2147483647, 0, 0), .inl (0, 0, 0, 0)], [(0, 0, 21, 7, 0, 0)]), [([.inr (.inl 20), .inl ((-2147483648), (-1), 0, 0), .inl (0, 65535, 0, 0), .inl ((-2147483648), 2147483647, 0, 0), .inl ((-2147483648), 2147483647, 0, 0), .inl ((-2147483648), 2147483647, 0, 0), .inl ((-2147483648), 2147483647, 0, 0), .inl (0, 0, 0, 0)], [])], [(20, 30), (43, 0)], [20, 43], (1, 9), [])
def u_X7_area_1 : List en_U := []
def x_X7_area_1 : en_Cx := ((en_KT, en_TY0, en_om0), en_FTX7, en_PTX7, [(106, false, 0, 0, 1, k_X7_isCell_0), (110, true, 13, 0, 0, k_X7_isThrown_0), (124, false, 0, 0, 0, k_X7_isKind_0), (128, true, 13, 0, 1, k_X7_isNoHole_1)], en_LTX7, en_LLX7, en_TTX7, en_ACX7)
def m_X7_area_1 : en_Mx := (k_X7_area_1, 2, 10, (0, 0), tb_X7_area, [])
set_option maxRecDepth 100000 in
theorem ck_X7_area_1 : en_all x_X7_area_1 m_X7_area_1 u_X7_area_1 32 = true := by decide +kernel
theorem ct_X7_area_1 {l : Launch} (hl : l.stackTraces = false) {cx cy : Int32} : en_Ctr l vwCl en_TY0 (en_Pc cx cy) en_om0 (en_Of cx cy) en_KT yX7_area (Cond.code yX7_area cX7_area 10 (some .int) :: en_cw) (en_rm 2 (1, 9)) 0 k_X7_area_1 :=
  en_main (X := x_X7_area_1) (M := m_X7_area_1) en_Pc_ok en_f32_ok en_f64_ok hl (by decide +kernel) ⟨en_FTX7_ok, en_PTX7_ok, en_ac (⟨yX7_isCell, RX7, cX7_isCell, 2, (some .boolean), by decide, ct_X7_isCell_0 hl, fun h => Bool.noConfusion h, fun _ => gc_RX7_106s⟩) (en_ac (⟨yX7_isThrown, RX7, cX7_isThrown, 3, (some .boolean), by decide, ct_X7_isThrown_0 hl, fun _ => ⟨gc_RX7_110v, by decide, _, rfl, rfl⟩, fun h => Bool.noConfusion h⟩) (en_ac (⟨yX7_isKind, RX7, cX7_isKind, 6, (some .boolean), by decide, ct_X7_isKind_0 hl, fun h => Bool.noConfusion h, fun _ => gc_RX7_124s⟩) (en_ac (⟨yX7_isNoHole, RX7, cX7_isNoHole, 2, (some .boolean), by decide, ct_X7_isNoHole_1 hl, fun _ => ⟨gc_RX7_128v, by decide, _, rfl, rfl⟩, fun h => Bool.noConfusion h⟩) en_an))), en_LTX7_ok, en_LLX7_ok, en_TTX7_ok hl, ⟨cw256, cw147⟩, en_ACX7_ok⟩ de_X7_area ck_X7_area_1
def k_X7_isIn_6 : en_K := (3, ([.inl (0, 2147483647, 0, 0), .inl (0, 0, 0, 0), .inl ((-1), (-1), 0, 0)], []), [([.inl (0, 2147483647, 0, 0), .inl (0, 0, 0, 0), .inl ((-1), (-1), 0, 0), .inl (0, 0, 0, 0)], [])], [], [], (0, 0), [])
def u_X7_isIn_6 : List en_U := []
def x_X7_isIn_6 : en_Cx := ((en_KT, en_TY0, en_om0), en_FTX7, en_PTX7, [], en_LTX7, en_LLX7, en_TTX7, en_ACX7)
def m_X7_isIn_6 : en_Mx := (k_X7_isIn_6, 0, 3, (0, 2), tb_X7_isIn, [])
set_option maxRecDepth 100000 in
theorem ck_X7_isIn_6 : en_all x_X7_isIn_6 m_X7_isIn_6 u_X7_isIn_6 11 = true := by decide +kernel
theorem ct_X7_isIn_6 {l : Launch} (hl : l.stackTraces = false) {cx cy : Int32} : en_Ctr l vwCl en_TY0 (en_Pc cx cy) en_om0 (en_Of cx cy) en_KT yX7_isIn (Cond.code yX7_isIn cX7_isIn 3 (some .boolean) :: en_cw) (en_rm 0 (0, 0)) 0 k_X7_isIn_6 :=
  en_main (X := x_X7_isIn_6) (M := m_X7_isIn_6) en_Pc_ok en_f32_ok en_f64_ok hl (by decide +kernel) ⟨en_FTX7_ok, en_PTX7_ok, en_an, en_LTX7_ok, en_LLX7_ok, en_TTX7_ok hl, ⟨cw256, cw147⟩, en_ACX7_ok⟩ de_X7_isIn ck_X7_isIn_6
def k_X7_isNoHole_2 : en_K := (2, ([.inr (.inl 20), .inl (0, 2147483647, 0, 0), .inl (0, 0, 0, 0)], [(0, 0, 16, 2, 0, 0)]), [([.inr (.inl 20), .inl (0, 2147483647, 0, 0), .inl (1, 1, 0, 0)], [])], [], [20], (0, 0), [])
def u_X7_isNoHole_2 : List en_U := []
def x_X7_isNoHole_2 : en_Cx := ((en_KT, en_TY0, en_om0), en_FTX7, en_PTX7, [(82, false, 0, 0, 0, k_X7_isIn_6)], en_LTX7, en_LLX7, en_TTX7, en_ACX7)
def m_X7_isNoHole_2 : en_Mx := (k_X7_isNoHole_2, 1, 2, (0, 2), tb_X7_isNoHole, [])
set_option maxRecDepth 100000 in
theorem ck_X7_isNoHole_2 : en_all x_X7_isNoHole_2 m_X7_isNoHole_2 u_X7_isNoHole_2 14 = true := by decide +kernel
theorem ct_X7_isNoHole_2 {l : Launch} (hl : l.stackTraces = false) {cx cy : Int32} : en_Ctr l vwCl en_TY0 (en_Pc cx cy) en_om0 (en_Of cx cy) en_KT yX7_isNoHole (Cond.code yX7_isNoHole cX7_isNoHole 2 (some .boolean) :: en_cw) (en_rm 1 (0, 0)) 0 k_X7_isNoHole_2 :=
  en_main (X := x_X7_isNoHole_2) (M := m_X7_isNoHole_2) en_Pc_ok en_f32_ok en_f64_ok hl (by decide +kernel) ⟨en_FTX7_ok, en_PTX7_ok, en_ac (⟨yX7_isIn, RX7, cX7_isIn, 3, (some .boolean), by decide, ct_X7_isIn_6 hl, fun h => Bool.noConfusion h, fun _ => gc_RX7_82s⟩) en_an, en_LTX7_ok, en_LLX7_ok, en_TTX7_ok hl, ⟨cw256, cw147⟩, en_ACX7_ok⟩ de_X7_isNoHole ck_X7_isNoHole_2
def k_X7_area_2 : en_K := (7, ([.inr (.inl 20), .inl (0, 2147483647, 0, 0), .inl (0, 65535, 0, 0), .inl ((-2147483648), 2147483647, 0, 0), .inl ((-2147483648), 2147483647, 0, 0), .inl ((-2147483648), 2147483647, 0, 0), .inl ((-2147483648), 2147483647, 0, 0), .inl (0, 0, 0, 0), .inl (0, 0, 0, 0)], [(0, 0, 16, 7, 0, 0), (0, 0, 21, 8, 0, 0)]), [([.inr (.inl 20), .inl (0, 2147483647, 0, 0), .inl (0, 65535, 0, 0), .inl ((-2147483648), 2147483647, 0, 0), .inl ((-2147483648), 2147483647, 0, 0), .inl ((-2147483648), 2147483647, 0, 0), .inl ((-2147483648), 2147483647, 0, 0), .inl (0, 0, 0, 0)], [])], [(20, 30), (43, 0)], [20, 43], (1, 9), [])
def u_X7_area_2 : List en_U := []
def x_X7_area_2 : en_Cx := ((en_KT, en_TY0, en_om0), en_FTX7, en_PTX7, [(106, false, 0, 0, 1, k_X7_isCell_0), (110, true, 13, 0, 0, k_X7_isThrown_0), (124, false, 0, 0, 0, k_X7_isKind_0), (128, true, 13, 0, 1, k_X7_isNoHole_2)], en_LTX7, en_LLX7, en_TTX7, en_ACX7)
def m_X7_area_2 : en_Mx := (k_X7_area_2, 2, 10, (0, 0), tb_X7_area, [])
set_option maxRecDepth 100000 in
theorem ck_X7_area_2 : en_all x_X7_area_2 m_X7_area_2 u_X7_area_2 32 = true := by decide +kernel
theorem ct_X7_area_2 {l : Launch} (hl : l.stackTraces = false) {cx cy : Int32} : en_Ctr l vwCl en_TY0 (en_Pc cx cy) en_om0 (en_Of cx cy) en_KT yX7_area (Cond.code yX7_area cX7_area 10 (some .int) :: en_cw) (en_rm 2 (1, 9)) 0 k_X7_area_2 :=
  en_main (X := x_X7_area_2) (M := m_X7_area_2) en_Pc_ok en_f32_ok en_f64_ok hl (by decide +kernel) ⟨en_FTX7_ok, en_PTX7_ok, en_ac (⟨yX7_isCell, RX7, cX7_isCell, 2, (some .boolean), by decide, ct_X7_isCell_0 hl, fun h => Bool.noConfusion h, fun _ => gc_RX7_106s⟩) (en_ac (⟨yX7_isThrown, RX7, cX7_isThrown, 3, (some .boolean), by decide, ct_X7_isThrown_0 hl, fun _ => ⟨gc_RX7_110v, by decide, _, rfl, rfl⟩, fun h => Bool.noConfusion h⟩) (en_ac (⟨yX7_isKind, RX7, cX7_isKind, 6, (some .boolean), by decide, ct_X7_isKind_0 hl, fun h => Bool.noConfusion h, fun _ => gc_RX7_124s⟩) (en_ac (⟨yX7_isNoHole, RX7, cX7_isNoHole, 2, (some .boolean), by decide, ct_X7_isNoHole_2 hl, fun _ => ⟨gc_RX7_128v, by decide, _, rfl, rfl⟩, fun h => Bool.noConfusion h⟩) en_an))), en_LTX7_ok, en_LLX7_ok, en_TTX7_ok hl, ⟨cw256, cw147⟩, en_ACX7_ok⟩ de_X7_area ck_X7_area_2
