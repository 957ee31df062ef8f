def k_X7_isThrown_1 : en_K := (3, ([.inr (.inl 20), .inl (0, 0, 0, 0), .inl (1, 1, 0, 0)], []), [([.inr (.inl 20), .inl (0, 0, 0, 0), .inl (1, 1, 0, 0), .inl (0, 0, 0, 0)], [])], [(20, 30)], [20], (0, 0), [])
def u_X7_isThrown_1 : List en_U := []
def x_X7_isThrown_1 : en_Cx := ((en_KT, en_TY0, en_om0), en_FTX7, en_PTX7, [], en_LTX7, en_LLX7, en_TTX7, en_ACX7)
def m_X7_isThrown_1 : en_Mx := (k_X7_isThrown_1, 0, 3, (0, 2), tb_X7_isThrown, [])
set_option maxRecDepth 100000 in
theorem ck_X7_isThrown_1 : en_all x_X7_isThrown_1 m_X7_isThrown_1 u_X7_isThrown_1 10 = true := by decide +kernel
theorem ct_X7_isThrown_1 {l : Launch} (hl : l.stackTraces = false) {cx cy : Int32} : en_Ctr l vwCl en_TY0 (en_Pc cx cy) en_om0 (en_Of cx cy) en_KT yX7_isThrown (Cond.code yX7_isThrown cX7_isThrown 3 (some .boolean) :: en_cw) (en_rm 0 (0, 0)) 0 k_X7_isThrown_1 :=
  en_main (X := x_X7_isThrown_1) (M := m_X7_isThrown_1) en_Pc_ok en_f32_ok en_f64_ok hl (by decide +kernel) ⟨en_FTX7_ok, en_PTX7_ok, en_an, en_LTX7_ok, en_LLX7_ok, en_TTX7_ok hl, ⟨cw256, cw147⟩, en_ACX7_ok⟩ de_X7_isThrown ck_X7_isThrown_1
def k_X7_isThrown_2 : en_K := (3, ([.inr (.inl 20), .inl (1, 1, 0, 0), .inl (2, 2, 0, 0)], []), [([.inr (.inl 20), .inl (1, 1, 0, 0), .inl (2, 2, 0, 0), .inl (1, 1, 0, 0)], [(0, 0, 30, 2, 0, 0), (6, 1, 0, 0, 0, 0)])], [(20, 30)], [20], (0, 0), [])
def u_X7_isThrown_2 : List en_U := []
def x_X7_isThrown_2 : en_Cx := ((en_KT, en_TY0, en_om0), en_FTX7, en_PTX7, [], en_LTX7, en_LLX7, en_TTX7, en_ACX7)
def m_X7_isThrown_2 : en_Mx := (k_X7_isThrown_2, 0, 3, (0, 2), tb_X7_isThrown, [])
set_option maxRecDepth 100000 in
theorem ck_X7_isThrown_2 : en_all x_X7_isThrown_2 m_X7_isThrown_2 u_X7_isThrown_2 11 = true := by decide +kernel
theorem ct_X7_isThrown_2 {l : Launch} (hl : l.stackTraces = false) {cx cy : Int32} : en_Ctr l vwCl en_TY0 (en_Pc cx cy) en_om0 (en_Of cx cy) en_KT yX7_isThrown (Cond.code yX7_isThrown cX7_isThrown 3 (some .boolean) :: en_cw) (en_rm 0 (0, 0)) 0 k_X7_isThrown_2 :=
  en_main (X := x_X7_isThrown_2) (M := m_X7_isThrown_2) en_Pc_ok en_f32_ok en_f64_ok hl (by decide +kernel) ⟨en_FTX7_ok, en_PTX7_ok, en_an, en_LTX7_ok, en_LLX7_ok, en_TTX7_ok hl, ⟨cw256, cw147⟩, en_ACX7_ok⟩ de_X7_isThrown ck_X7_isThrown_2
def tb_X7_again : en_Tb := [
  (28, [(0, .aload_n 0, 1), (1, .aload_n 0, 1), (2, .iload_n 1, 1), (3, .invokevirtual 132, 3), (6, .iconst 1, 1), (7, .invokevirtual 110, 3), (10, .ifCond .ne 23, 3), (13, .aload_n 0, 1), (14, .aload_n 0, 1), (15, .getfield 135, 3), (18, .ifCond .ne 7, 3), (21, .iconst 1, 1), (22, .goto 4, 3), (25, .iconst 0, 1), (26, .iconst 2, 1), (27, .invokevirtual 110, 3)]), 
  (53, [(30, .ifCond .eq 5, 3), (33, .iconst 0, 1), (34, .ireturn, 1), (35, .aload_n 0, 1), (36, .getfield 23, 3), (39, .iload_n 1, 1), (40, .aaload, 1), (41, .astore_n 2, 1), (42, .aload_n 2, 1), (43, .iconst 0, 1), (44, .iaload, 1), (45, .bipush 108, 2), (47, .if_icmp .eq 19, 3), (50, .aload_n 2, 1), (51, .iconst 0, 1), (52, .iaload, 1)]), 
  (80, [(53, .bipush 115, 2), (55, .if_icmp .eq 11, 3), (58, .aload_n 2, 1), (59, .iconst 0, 1), (60, .iaload, 1), (61, .bipush 120, 2), (63, .if_icmp .ne 15, 3), (66, .aload_n 2, 1), (67, .bipush 9, 2), (69, .iaload, 1), (70, .iconst 1, 1), (71, .if_icmp .ne 7, 3), (74, .iconst 1, 1), (75, .goto 4, 3), (78, .iconst 0, 1), (79, .istore_n 3, 1)]), 
  (106, [(80, .aload_n 0, 1), (81, .iload_n 3, 1), (82, .ifCond .ne 7, 3), (85, .iconst 1, 1), (86, .goto 4, 3), (89, .iconst 0, 1), (90, .iconst 3, 1), (91, .invokevirtual 110, 3), (94, .ifCond .eq 5, 3), (97, .iconst 0, 1), (98, .ireturn, 1), (99, .aload_n 0, 1), (100, .iconst (-1), 1), (101, .putfield 160, 3), (104, .aload_n 2, 1), (105, .iconst 0, 1)]), 
  (123, [(106, .bipush 108, 2), (108, .iastore, 1), (109, .aload_n 2, 1), (110, .iconst 1, 1), (111, .aload_n 2, 1), (112, .iconst 4, 1), (113, .iaload, 1), (114, .iastore, 1), (115, .aload_n 2, 1), (116, .iconst 2, 1), (117, .aload_n 2, 1), (118, .iconst 5, 1), (119, .iaload, 1), (120, .iastore, 1), (121, .aload_n 2, 1), (122, .iconst 3, 1)]), 
  (143, [(123, .aload_n 2, 1), (124, .bipush 6, 2), (126, .iaload, 1), (127, .iastore, 1), (128, .aload_n 2, 1), (129, .bipush 13, 2), (131, .iconst 0, 1), (132, .iastore, 1), (133, .aload_n 2, 1), (134, .bipush 10, 2), (136, .iconst 0, 1), (137, .iastore, 1), (138, .aload_n 2, 1), (139, .bipush 8, 2), (141, .dup2, 1), (142, .iaload, 1)]), 
  (151, [(143, .iconst 1, 1), (144, .iadd, 1), (145, .iastore, 1), (146, .aload_n 2, 1), (147, .invokestatic 207, 3), (150, .ireturn, 1)])]
set_option maxRecDepth 40000 in
theorem de_X7_again : en_De tb_X7_again cX7_again := by
  unfold en_De
  decide +kernel
def k_X7_again_0 : en_K := (2, ([.inr (.inl 20), .inl ((-2147483648), 2147483647, 0, 0), .inl (0, 0, 0, 0)], [(0, 0, 22, 2, 0, 0)]), [([.inr (.inl 20), .inl ((-2147483648), 2147483647, 0, 0), .inl (0, 0, 0, 0)], [])], [(20, 30)], [20], (0, 0), [])
def u_X7_again_0 : List en_U := []
def x_X7_again_0 : en_Cx := ((en_KT, en_TY0, en_om0), en_FTX7, en_PTX7, [(110, true, 13, 0, 0, k_X7_isThrown_0), (110, true, 13, 0, 0, k_X7_isThrown_1), (110, true, 13, 0, 0, k_X7_isThrown_2), (132, true, 13, 0, 1, k_X7_isNoPlayer_0)], en_LTX7, en_LLX7, en_TTX7, en_ACX7)
def m_X7_again_0 : en_Mx := (k_X7_again_0, 2, 4, (0, 0), tb_X7_again, [])
set_option maxRecDepth 100000 in
theorem ck_X7_again_0 : en_all x_X7_again_0 m_X7_again_0 u_X7_again_0 21 = true := by decide +kernel
theorem ct_X7_again_0 {l : Launch} (hl : l.stackTraces = false) {cx cy : Int32} : en_Ctr l vwCl en_TY0 (en_Pc cx cy) en_om0 (en_Of cx cy) en_KT yX7_again (Cond.code yX7_again cX7_again 4 (some .int) :: en_cw) (en_rm 2 (0, 0)) 0 k_X7_again_0 :=
  en_main (X := x_X7_again_0) (M := m_X7_again_0) en_Pc_ok en_f32_ok en_f64_ok hl (by decide +kernel) ⟨en_FTX7_ok, en_PTX7_ok, en_ac (⟨yX7_isThrown, RX7, cX7_isThrown, 3, (some .boolean), by decide, ct_X7_isThrown_0 hl, fun _ => ⟨gc_RX7_110v, by decide, _, rfl, rfl⟩, fun h => Bool.noConfusion h⟩) (en_ac (⟨yX7_isThrown, RX7, cX7_isThrown, 3, (some .boolean), by decide, ct_X7_isThrown_1 hl, fun _ => ⟨gc_RX7_110v, by decide, _, rfl, rfl⟩, fun h => Bool.noConfusion h⟩) (en_ac (⟨yX7_isThrown, RX7, cX7_isThrown, 3, (some .boolean), by decide, ct_X7_isThrown_2 hl, fun _ => ⟨gc_RX7_110v, by decide, _, rfl, rfl⟩, fun h => Bool.noConfusion h⟩) (en_ac (⟨yX7_isNoPlayer, RX7, cX7_isNoPlayer, 2, (some .boolean), by decide, ct_X7_isNoPlayer_0 hl, fun _ => ⟨gc_RX7_132v, by decide, _, rfl, rfl⟩, fun h => Bool.noConfusion h⟩) en_an))), en_LTX7_ok, en_LLX7_ok, en_TTX7_ok hl, ⟨cw256, cw147⟩, en_ACX7_ok⟩ de_X7_again ck_X7_again_0
def k_X7_isIn_1 : en_K := (3, ([.inl ((-2147483648), 2147483647, 0, 0), .inl (0, 0, 0, 0), .inl ((-1), 5, 0, 0)], [(5, 0, 0, 0, 0, 0)]), [([.inl ((-2147483648), 2147483647, 0, 0), .inl (0, 0, 0, 0), .inl ((-1), 5, 0, 0), .inl (0, 0, 0, 0)], [(5, 0, 0, 0, 0, 0)]), ([.inl (0, 5, 0, 0), .inl (0, 0, 0, 0), .inl (0, 5, 0, 0), .inl (1, 1, 0, 0)], [(5, 0, 0, 0, 0, 0)])], [], [], (0, 0), [])
def u_X7_isIn_1 : List en_U := []
def x_X7_isIn_1 : en_Cx := ((en_KT, en_TY0, en_om0), en_FTX7, en_PTX7, [], en_LTX7, en_LLX7, en_TTX7, en_ACX7)
def m_X7_isIn_1 : en_Mx := (k_X7_isIn_1, 0, 3, (0, 2), tb_X7_isIn, [])
set_option maxRecDepth 100000 in
theorem ck_X7_isIn_1 : en_all x_X7_isIn_1 m_X7_isIn_1 u_X7_isIn_1 12 = true := by decide +kernel
theorem ct_X7_isIn_1 {l : Launch} (hl : l.stackTraces = false) {cx cy : Int32} : en_Ctr l vwCl en_TY0 (en_Pc cx cy) en_om0 (en_Of cx cy) en_KT yX7_isIn (Cond.code yX7_isIn cX7_isIn 3 (some .boolean) :: en_cw) (en_rm 0 (0, 0)) 0 k_X7_isIn_1 :=
  en_main (X := x_X7_isIn_1) (M := m_X7_isIn_1) en_Pc_ok en_f32_ok en_f64_ok hl (by decide +kernel) ⟨en_FTX7_ok, en_PTX7_ok, en_an, en_LTX7_ok, en_LLX7_ok, en_TTX7_ok hl, ⟨cw256, cw147⟩, en_ACX7_ok⟩ de_X7_isIn ck_X7_isIn_1
def k_X7_isNoPlayer_1 : en_K := (2, ([.inr (.inl 20), .inl ((-2147483648), 2147483647, 0, 0)], [(5, 0, 0, 0, 0, 0)]), [([.inr (.inl 20), .inl (0, 5, 0, 0), .inl (0, 0, 0, 0), .inl (1, 6, 0, 0)], [(0, 0, 17, 3, 0, 0), (5, 0, 0, 0, 0, 0)]), ([.inr (.inl 20), .inl ((-2147483648), 2147483647, 0, 0), .inl (1, 1, 0, 0)], [(5, 0, 0, 0, 0, 0)])], [], [20], (0, 0), [])
def u_X7_isNoPlayer_1 : List en_U := []
def x_X7_isNoPlayer_1 : en_Cx := ((en_KT, en_TY0, en_om0), en_FTX7, en_PTX7, [(82, false, 0, 0, 0, k_X7_isIn_1)], en_LTX7, en_LLX7, en_TTX7, en_ACX7)
def m_X7_isNoPlayer_1 : en_Mx := (k_X7_isNoPlayer_1, 1, 2, (0, 2), tb_X7_isNoPlayer, [])
set_option maxRecDepth 100000 in
theorem ck_X7_isNoPlayer_1 : en_all x_X7_isNoPlayer_1 m_X7_isNoPlayer_1 u_X7_isNoPlayer_1 14 = true := by decide +kernel
theorem ct_X7_isNoPlayer_1 {l : Launch} (hl : l.stackTraces = false) {cx cy : Int32} : en_Ctr l vwCl en_TY0 (en_Pc cx cy) en_om0 (en_Of cx cy) en_KT yX7_isNoPlayer (Cond.code yX7_isNoPlayer cX7_isNoPlayer 2 (some .boolean) :: en_cw) (en_rm 1 (0, 0)) 0 k_X7_isNoPlayer_1 :=
  en_main (X := x_X7_isNoPlayer_1) (M := m_X7_isNoPlayer_1) en_Pc_ok en_f32_ok en_f64_ok hl (by decide +kernel) ⟨en_FTX7_ok, en_PTX7_ok, en_ac (⟨yX7_isIn, RX7, cX7_isIn, 3, (some .boolean), by decide, ct_X7_isIn_1 hl, fun h => Bool.noConfusion h, fun _ => gc_RX7_82s⟩) en_an, en_LTX7_ok, en_LLX7_ok, en_TTX7_ok hl, ⟨cw256, cw147⟩, en_ACX7_ok⟩ de_X7_isNoPlayer ck_X7_isNoPlayer_1
def k_X7_isThrown_3 : en_K := (3, ([.inr (.inl 20), .inl (1, 1, 0, 0), .inl (1, 1, 0, 0)], [(5, 0, 0, 0, 0, 0)]), [([.inr (.inl 20), .inl (1, 1, 0, 0), .inl (1, 1, 0, 0), .inl (1, 1, 0, 0)], [(0, 0, 30, 2, 0, 0), (5, 0, 0, 0, 0, 0), (6, 1, 0, 0, 0, 0)])], [(20, 30)], [20], (0, 0), [])
def u_X7_isThrown_3 : List en_U := []
def x_X7_isThrown_3 : en_Cx := ((en_KT, en_TY0, en_om0), en_FTX7, en_PTX7, [], en_LTX7, en_LLX7, en_TTX7, en_ACX7)
def m_X7_isThrown_3 : en_Mx := (k_X7_isThrown_3, 0, 3, (0, 2), tb_X7_isThrown, [])
set_option maxRecDepth 100000 in
theorem ck_X7_isThrown_3 : en_all x_X7_isThrown_3 m_X7_isThrown_3 u_X7_isThrown_3 11 = true := by decide +kernel
theorem ct_X7_isThrown_3 {l : Launch} (hl : l.stackTraces = false) {cx cy : Int32} : en_Ctr l vwCl en_TY0 (en_Pc cx cy) en_om0 (en_Of cx cy) en_KT yX7_isThrown (Cond.code yX7_isThrown cX7_isThrown 3 (some .boolean) :: en_cw) (en_rm 0 (0, 0)) 0 k_X7_isThrown_3 :=
  en_main (X := x_X7_isThrown_3) (M := m_X7_isThrown_3) en_Pc_ok en_f32_ok en_f64_ok hl (by decide +kernel) ⟨en_FTX7_ok, en_PTX7_ok, en_an, en_LTX7_ok, en_LLX7_ok, en_TTX7_ok hl, ⟨cw256, cw147⟩, en_ACX7_ok⟩ de_X7_isThrown ck_X7_isThrown_3
def k_X7_isThrown_4 : en_K := (3, ([.inr (.inl 20), .inl (0, 0, 0, 0), .inl (1, 1, 0, 0)], [(5, 0, 0, 0, 0, 0)]), [([.inr (.inl 20), .inl (0, 0, 0, 0), .inl (1, 1, 0, 0), .inl (0, 0, 0, 0)], [(5, 0, 0, 0, 0, 0)])], [(20, 30)], [20], (0, 0), [])
def u_X7_isThrown_4 : List en_U := []
def x_X7_isThrown_4 : en_Cx := ((en_KT, en_TY0, en_om0), en_FTX7, en_PTX7, [], en_LTX7, en_LLX7, en_TTX7, en_ACX7)
def m_X7_isThrown_4 : en_Mx := (k_X7_isThrown_4, 0, 3, (0, 2), tb_X7_isThrown, [])
set_option maxRecDepth 100000 in
theorem ck_X7_isThrown_4 : en_all x_X7_isThrown_4 m_X7_isThrown_4 u_X7_isThrown_4 10 = true := by decide +kernel
theorem ct_X7_isThrown_4 {l : Launch} (hl : l.stackTraces = false) {cx cy : Int32} : en_Ctr l vwCl en_TY0 (en_Pc cx cy) en_om0 (en_Of cx cy) en_KT yX7_isThrown (Cond.code yX7_isThrown cX7_isThrown 3 (some .boolean) :: en_cw) (en_rm 0 (0, 0)) 0 k_X7_isThrown_4 :=
  en_main (X := x_X7_isThrown_4) (M := m_X7_isThrown_4) en_Pc_ok en_f32_ok en_f64_ok hl (by decide +kernel) ⟨en_FTX7_ok, en_PTX7_ok, en_an, en_LTX7_ok, en_LLX7_ok, en_TTX7_ok hl, ⟨cw256, cw147⟩, en_ACX7_ok⟩ de_X7_isThrown ck_X7_isThrown_4
def k_X7_isThrown_5 : en_K := (3, ([.inr (.inl 20), .inl (0, 0, 0, 0), .inl (2, 2, 0, 0)], [(5, 0, 0, 0, 0, 0)]), [([.inr (.inl 20), .inl (0, 0, 0, 0), .inl (2, 2, 0, 0), .inl (0, 0, 0, 0)], [(5, 0, 0, 0, 0, 0)])], [(20, 30)], [20], (0, 0), [])
def u_X7_isThrown_5 : List en_U := []
def x_X7_isThrown_5 : en_Cx := ((en_KT, en_TY0, en_om0), en_FTX7, en_PTX7, [], en_LTX7, en_LLX7, en_TTX7, en_ACX7)
def m_X7_isThrown_5 : en_Mx := (k_X7_isThrown_5, 0, 3, (0, 2), tb_X7_isThrown, [])
set_option maxRecDepth 100000 in
theorem ck_X7_isThrown_5 : en_all x_X7_isThrown_5 m_X7_isThrown_5 u_X7_isThrown_5 10 = true := by decide +kernel
theorem ct_X7_isThrown_5 {l : Launch} (hl : l.stackTraces = false) {cx cy : Int32} : en_Ctr l vwCl en_TY0 (en_Pc cx cy) en_om0 (en_Of cx cy) en_KT yX7_isThrown (Cond.code yX7_isThrown cX7_isThrown 3 (some .boolean) :: en_cw) (en_rm 0 (0, 0)) 0 k_X7_isThrown_5 :=
  en_main (X := x_X7_isThrown_5) (M := m_X7_isThrown_5) en_Pc_ok en_f32_ok en_f64_ok hl (by decide +kernel) ⟨en_FTX7_ok, en_PTX7_ok, en_an, en_LTX7_ok, en_LLX7_ok, en_TTX7_ok hl, ⟨cw256, cw147⟩, en_ACX7_ok⟩ de_X7_isThrown ck_X7_isThrown_5
def k_X7_isThrown_6 : en_K := (3, ([.inr (.inl 20), .inl (0, 0, 0, 0), .inl (3, 3, 0, 0)], [(5, 0, 0, 0, 0, 0)]), [([.inr (.inl 20), .inl (0, 0, 0, 0), .inl (3, 3, 0, 0), .inl (0, 0, 0, 0)], [(5, 0, 0, 0, 0, 0)])], [(20, 30)], [20], (0, 0), [])
def u_X7_isThrown_6 : List en_U := []
def x_X7_isThrown_6 : en_Cx := ((en_KT, en_TY0, en_om0), en_FTX7, en_PTX7, [], en_LTX7, en_LLX7, en_TTX7, en_ACX7)
def m_X7_isThrown_6 : en_Mx := (k_X7_isThrown_6, 0, 3, (0, 2), tb_X7_isThrown, [])
set_option maxRecDepth 100000 in
theorem ck_X7_isThrown_6 : en_all x_X7_isThrown_6 m_X7_isThrown_6 u_X7_isThrown_6 10 = true := by decide +kernel
theorem ct_X7_isThrown_6 {l : Launch} (hl : l.stackTraces = false) {cx cy : Int32} : en_Ctr l vwCl en_TY0 (en_Pc cx cy) en_om0 (en_Of cx cy) en_KT yX7_isThrown (Cond.code yX7_isThrown cX7_isThrown 3 (some .boolean) :: en_cw) (en_rm 0 (0, 0)) 0 k_X7_isThrown_6 :=
  en_main (X := x_X7_isThrown_6) (M := m_X7_isThrown_6) en_Pc_ok en_f32_ok en_f64_ok hl (by decide +kernel) ⟨en_FTX7_ok, en_PTX7_ok, en_an, en_LTX7_ok, en_LLX7_ok, en_TTX7_ok hl, ⟨cw256, cw147⟩, en_ACX7_ok⟩ de_X7_isThrown ck_X7_isThrown_6
def tb_X7_scoreOf : en_Tb := [
  (10, [(0, .aload_n 0, 1), (1, .bipush 7, 2), (3, .iaload, 1), (4, .aload_n 0, 1), (5, .bipush 8, 2), (7, .iaload, 1), (8, .iadd, 1), (9, .ireturn, 1)])]
set_option maxRecDepth 40000 in
theorem de_X7_scoreOf : en_De tb_X7_scoreOf cX7_scoreOf := by
  unfold en_De
  decide +kernel
def k_X7_scoreOf_0 : en_K := (1, ([.inr (.inl 27)], [(5, 0, 0, 0, 0, 0)]), [([.inr (.inl 27), .inl ((-2147483648), 2147483647, 0, 0), .inl (0, 65535, 0, 0), .inl ((-2147483648), 2147483647, 0, 0), .inl (0, 110, 0, 0), .inl ((-2147483648), 2147483647, 0, 0), .inl ((-2147483648), 2147483647, 0, 0), .inl (0, 1, 0, 0), .inl (0, 29, 0, 0), .inl (0, 19, 0, 0), .inl (0, 1, 0, 0), .inl (0, 29, 0, 0), .inl (0, 19, 0, 0), .inl (0, 29, 0, 0), .inl ((-2147483648), 2147483647, 0, 0), .inl (0, 19, 0, 0), .inl (0, 29, 0, 0), .inl (0, 19, 0, 0), .inl (0, 1, 0, 0)], [(1, 0, 0, 2, 0, 0), (1, 0, 1, 3, 0, 0), (1, 0, 10, 4, 0, 0), (1, 0, 11, 5, 0, 0), (1, 0, 12, 6, 0, 0), (1, 0, 13, 7, 0, 0), (1, 0, 14, 8, 0, 0), (1, 0, 15, 9, 0, 0), (1, 0, 16, 10, 0, 0), (1, 0, 17, 11, 0, 0), (1, 0, 18, 12, 0, 0), (1, 0, 19, 13, 0, 0), (1, 0, 2, 14, 0, 0), (1, 0, 20, 15, 0, 0), (1, 0, 4, 16, 0, 0), (1, 0, 5, 17, 0, 0), (1, 0, 9, 18, 0, 0), (3, 2, 3, 14, 108, 110), (3, 2, 16, 17, 108, 108), (3, 2, 16, 17, 115, 115), (3, 18, 16, 17, 1, 1), (3, 4, 5, 6, 108, 110), (3, 7, 16, 17, 1, 1), (3, 7, 8, 9, 1, 1), (3, 10, 11, 12, 1, 1), (3, 10, 13, 15, 1, 1), (5, 0, 0, 0, 0, 0), (10, 2, 3, 14, 115, 115)])], [], [27], (0, 0), [])
def u_X7_scoreOf_0 : List en_U := []
def x_X7_scoreOf_0 : en_Cx := ((en_KT, en_TY0, en_om0), en_FTX7, en_PTX7, [], en_LTX7, en_LLX7, en_TTX7, en_ACX7)
def m_X7_scoreOf_0 : en_Mx := (k_X7_scoreOf_0, 0, 1, (0, 0), tb_X7_scoreOf, [])
set_option maxRecDepth 100000 in
theorem ck_X7_scoreOf_0 : en_all x_X7_scoreOf_0 m_X7_scoreOf_0 u_X7_scoreOf_0 11 = true := by decide +kernel
theorem ct_X7_scoreOf_0 {l : Launch} (hl : l.stackTraces = false) {cx cy : Int32} : en_Ctr l vwCl en_TY0 (en_Pc cx cy) en_om0 (en_Of cx cy) en_KT yX7_scoreOf (Cond.code yX7_scoreOf cX7_scoreOf 1 (some .int) :: en_cw) (en_rm 0 (0, 0)) 0 k_X7_scoreOf_0 :=
  en_main (X := x_X7_scoreOf_0) (M := m_X7_scoreOf_0) en_Pc_ok en_f32_ok en_f64_ok hl (by decide +kernel) ⟨en_FTX7_ok, en_PTX7_ok, en_an, en_LTX7_ok, en_LLX7_ok, en_TTX7_ok hl, ⟨cw256, cw147⟩, en_ACX7_ok⟩ de_X7_scoreOf ck_X7_scoreOf_0
def k_X7_isThrown_7 : en_K := (3, ([.inr (.inl 20), .inl (1, 1, 0, 0), .inl (3, 3, 0, 0)], [(5, 0, 0, 0, 0, 0)]), [([.inr (.inl 20), .inl (1, 1, 0, 0), .inl (3, 3, 0, 0), .inl (1, 1, 0, 0)], [(0, 0, 30, 2, 0, 0), (5, 0, 0, 0, 0, 0), (6, 1, 0, 0, 0, 0)])], [(20, 30)], [20], (0, 0), [])
def u_X7_isThrown_7 : List en_U := []
def x_X7_isThrown_7 : en_Cx := ((en_KT, en_TY0, en_om0), en_FTX7, en_PTX7, [], en_LTX7, en_LLX7, en_TTX7, en_ACX7)
def m_X7_isThrown_7 : en_Mx := (k_X7_isThrown_7, 0, 3, (0, 2), tb_X7_isThrown, [])
set_option maxRecDepth 100000 in
theorem ck_X7_isThrown_7 : en_all x_X7_isThrown_7 m_X7_isThrown_7 u_X7_isThrown_7 11 = true := by decide +kernel
theorem ct_X7_isThrown_7 {l : Launch} (hl : l.stackTraces = false) {cx cy : Int32} : en_Ctr l vwCl en_TY0 (en_Pc cx cy) en_om0 (en_Of cx cy) en_KT yX7_isThrown (Cond.code yX7_isThrown cX7_isThrown 3 (some .boolean) :: en_cw) (en_rm 0 (0, 0)) 0 k_X7_isThrown_7 :=
  en_main (X := x_X7_isThrown_7) (M := m_X7_isThrown_7) en_Pc_ok en_f32_ok en_f64_ok hl (by decide +kernel) ⟨en_FTX7_ok, en_PTX7_ok, en_an, en_LTX7_ok, en_LLX7_ok, en_TTX7_ok hl, ⟨cw256, cw147⟩, en_ACX7_ok⟩ de_X7_isThrown ck_X7_isThrown_7
def k_X7_again_1 : en_K := (2, ([.inr (.inl 20), .inl ((-2147483648), 2147483647, 0, 0), .inl (1, 1, 0, 0)], [(0, 0, 22, 2, 0, 0), (5, 0, 0, 0, 0, 0)]), [([.inr (.inl 20), .inl ((-2147483648), 2147483647, 0, 0), .inl ((-2147483648), 2147483647, 0, 0)], [(5, 0, 0, 0, 0, 0)])], [(20, 28), (20, 30), (27, 0)], [20, 26, 27], (0, 0), [])
def u_X7_again_1 : List en_U := []
def x_X7_again_1 : en_Cx := ((en_KT, en_TY0, en_om0), en_FTX7, en_PTX7, [(110, true, 13, 0, 0, k_X7_isThrown_3), (110, true, 13, 0, 0, k_X7_isThrown_4), (110, true, 13, 0, 0, k_X7_isThrown_5), (110, true, 13, 0, 0, k_X7_isThrown_6), (110, true, 13, 0, 0, k_X7_isThrown_7), (132, true, 13, 0, 1, k_X7_isNoPlayer_1), (207, false, 0, 0, 0, k_X7_scoreOf_0)], en_LTX7, en_LLX7, en_TTX7, en_ACX7)
def m_X7_again_1 : en_Mx := (k_X7_again_1, 2, 4, (0, 0), tb_X7_again, [])
set_option maxRecDepth 100000 in
theorem ck_X7_again_1 : en_all x_X7_again_1 m_X7_again_1 u_X7_again_1 96 = true := by decide +kernel
theorem ct_X7_again_1 {l : Launch} (hl : l.stackTraces = false) {cx cy : Int32} : en_Ctr l vwCl en_TY0 (en_Pc cx cy) en_om0 (en_Of cx cy) en_KT yX7_again (Cond.code yX7_again cX7_again 4 (some .int) :: en_cw) (en_rm 2 (0, 0)) 0 k_X7_again_1 :=
  en_main (X := x_X7_again_1) (M := m_X7_again_1) en_Pc_ok en_f32_ok en_f64_ok hl (by decide +kernel) ⟨en_FTX7_ok, en_PTX7_ok, en_ac (⟨yX7_isThrown, RX7, cX7_isThrown, 3, (some .boolean), by decide, ct_X7_isThrown_3 hl, fun _ => ⟨gc_RX7_110v, by decide, _, rfl, rfl⟩, fun h => Bool.noConfusion h⟩) (en_ac (⟨yX7_isThrown, RX7, cX7_isThrown, 3, (some .boolean), by decide, ct_X7_isThrown_4 hl, fun _ => ⟨gc_RX7_110v, by decide, _, rfl, rfl⟩, fun h => Bool.noConfusion h⟩) (en_ac (⟨yX7_isThrown, RX7, cX7_isThrown, 3, (some .boolean), by decide, ct_X7_isThrown_5 hl, fun _ => ⟨gc_RX7_110v, by decide, _, rfl, rfl⟩, fun h => Bool.noConfusion h⟩) (en_ac (⟨yX7_isThrown, RX7, cX7_isThrown, 3, (some .boolean), by decide, ct_X7_isThrown_6 hl, fun _ => ⟨gc_RX7_110v, by decide, _, rfl, rfl⟩, fun h => Bool.noConfusion h⟩) (en_ac (⟨yX7_isThrown, RX7, cX7_isThrown, 3, (some .boolean), by decide, ct_X7_isThrown_7 hl, fun _ => ⟨gc_RX7_110v, by decide, _, rfl, rfl⟩, fun h => Bool.noConfusion h⟩) (en_ac (⟨yX7_isNoPlayer, RX7, cX7_isNoPlayer, 2, (some .boolean), by decide, ct_X7_isNoPlayer_1 hl, fun _ => ⟨gc_RX7_132v, by decide, _, rfl, rfl⟩, fun h => Bool.noConfusion h⟩) (en_ac (⟨yX7_scoreOf, RX7, cX7_scoreOf, 1, (some .int), by decide, ct_X7_scoreOf_0 hl, fun h => Bool.noConfusion h, fun _ => gc_RX7_207s⟩) en_an)))))), en_LTX7_ok, en_LLX7_ok, en_TTX7_ok hl, ⟨cw256, cw147⟩, en_ACX7_ok⟩ de_X7_again ck_X7_again_1
def k_X7_again_2 : en_K := (2, ([.inr (.inl 20), .inl ((-2147483648), 2147483647, 0, 0), .inl (1, 1, 0, 0), .inl ((-1), (-1), 0, 0)], [(0, 0, 22, 2, 0, 0), (0, 0, 28, 3, 0, 0), (5, 0, 0, 0, 0, 0)]), [([.inr (.inl 20), .inl ((-2147483648), 2147483647, 0, 0), .inl ((-2147483648), 2147483647, 0, 0), .inl ((-1), (-1), 0, 0)], [(0, 0, 28, 3, 0, 0), (5, 0, 0, 0, 0, 0)])], [(20, 28), (20, 30), (27, 0)], [20, 26, 27], (0, 0), [])
def u_X7_again_2 : List en_U := []
def x_X7_again_2 : en_Cx := ((en_KT, en_TY0, en_om0), en_FTX7, en_PTX7, [(110, true, 13, 0, 0, k_X7_isThrown_3), (110, true, 13, 0, 0, k_X7_isThrown_4), (110, true, 13, 0, 0, k_X7_isThrown_5), (110, true, 13, 0, 0, k_X7_isThrown_6), (110, true, 13, 0, 0, k_X7_isThrown_7), (132, true, 13, 0, 1, k_X7_isNoPlayer_1), (207, false, 0, 0, 0, k_X7_scoreOf_0)], en_LTX7, en_LLX7, en_TTX7, en_ACX7)
def m_X7_again_2 : en_Mx := (k_X7_again_2, 2, 4, (0, 0), tb_X7_again, [])
set_option maxRecDepth 100000 in
theorem ck_X7_again_2 : en_all x_X7_again_2 m_X7_again_2 u_X7_again_2 96 = true := by decide +kernel
theorem ct_X7_again_2 {l : Launch} (hl : l.stackTraces = false) {cx cy : Int32} : en_Ctr l vwCl en_TY0 (en_Pc cx cy) en_om0 (en_Of cx cy) en_KT yX7_again (Cond.code yX7_again cX7_again 4 (some .int) :: en_cw) (en_rm 2 (0, 0)) 0 k_X7_again_2 :=
  en_main (X := x_X7_again_2) (M := m_X7_again_2) en_Pc_ok en_f32_ok en_f64_ok hl (by decide +kernel) ⟨en_FTX7_ok, en_PTX7_ok, en_ac (⟨yX7_isThrown, RX7, cX7_isThrown, 3, (some .boolean), by decide, ct_X7_isThrown_3 hl, fun _ => ⟨gc_RX7_110v, by decide, _, rfl, rfl⟩, fun h => Bool.noConfusion h⟩) (en_ac (⟨yX7_isThrown, RX7, cX7_isThrown, 3, (some .boolean), by decide, ct_X7_isThrown_4 hl, fun _ => ⟨gc_RX7_110v, by decide, _, rfl, rfl⟩, fun h => Bool.noConfusion h⟩) (en_ac (⟨yX7_isThrown, RX7, cX7_isThrown, 3, (some .boolean), by decide, ct_X7_isThrown_5 hl, fun _ => ⟨gc_RX7_110v, by decide, _, rfl, rfl⟩, fun h => Bool.noConfusion h⟩) (en_ac (⟨yX7_isThrown, RX7, cX7_isThrown, 3, (some .boolean), by decide, ct_X7_isThrown_6 hl, fun _ => ⟨gc_RX7_110v, by decide, _, rfl, rfl⟩, fun h => Bool.noConfusion h⟩) (en_ac (⟨yX7_isThrown, RX7, cX7_isThrown, 3, (some .boolean), by decide, ct_X7_isThrown_7 hl, fun _ => ⟨gc_RX7_110v, by decide, _, rfl, rfl⟩, fun h => Bool.noConfusion h⟩) (en_ac (⟨yX7_isNoPlayer, RX7, cX7_isNoPlayer, 2, (some .boolean), by decide, ct_X7_isNoPlayer_1 hl, fun _ => ⟨gc_RX7_132v, by decide, _, rfl, rfl⟩, fun h => Bool.noConfusion h⟩) (en_ac (⟨yX7_scoreOf, RX7, cX7_scoreOf, 1, (some .int), by decide, ct_X7_scoreOf_0 hl, fun h => Bool.noConfusion h, fun _ => gc_RX7_207s⟩) en_an)))))), en_LTX7_ok, en_LLX7_ok, en_TTX7_ok hl, ⟨cw256, cw147⟩, en_ACX7_ok⟩ de_X7_again ck_X7_again_2
def tb_X7_isKind : en_Tb := [
  (21, [(0, .iconst 0, 1), (1, .istore_n 1, 1), (2, .bipush 9, 2), (4, .newarray .char, 2), (6, .dup, 1), (7, .iconst 0, 1), (8, .bipush 46, 2), (10, .castore, 1), (11, .dup, 1), (12, .iconst 1, 1), (13, .bipush 103, 2), (15, .castore, 1), (16, .dup, 1), (17, .iconst 2, 1), (18, .bipush 98, 2), (20, .castore, 1)]), 
  (42, [(21, .dup, 1), (22, .iconst 3, 1), (23, .bipush 100, 2), (25, .castore, 1), (26, .dup, 1), (27, .iconst 4, 1), (28, .bipush 121, 2), (30, .castore, 1), (31, .dup, 1), (32, .iconst 5, 1), (33, .bipush 114, 2), (35, .castore, 1), (36, .dup, 1), (37, .bipush 6, 2), (39, .bipush 119, 2), (41, .castore, 1)]), 
  (64, [(42, .dup, 1), (43, .bipush 7, 2), (45, .bipush 112, 2), (47, .castore, 1), (48, .dup, 1), (49, .bipush 8, 2), (51, .bipush 111, 2), (53, .castore, 1), (54, .astore_n 2, 1), (55, .aload_n 2, 1), (56, .arraylength, 1), (57, .istore_n 3, 1), (58, .iconst 0, 1), (59, .istore 4, 2), (61, .iload 4, 2), (63, .iload_n 3, 1)]), 
  (91, [(64, .if_icmp .ge 29, 3), (67, .aload_n 2, 1), (68, .iload 4, 2), (70, .caload, 1), (71, .istore 5, 2), (73, .iload_n 1, 1), (74, .iload 5, 2), (76, .iload_n 0, 1), (77, .if_icmp .ne 7, 3), (80, .iconst 1, 1), (81, .goto 4, 3), (84, .iconst 0, 1), (85, .ior, 1), (86, .istore_n 1, 1), (87, .iinc 4 1, 3), (90, .goto (-29), 3)]), 
  (95, [(93, .iload_n 1, 1), (94, .ireturn, 1)])]
set_option maxRecDepth 40000 in
theorem de_X7_isKind : en_De tb_X7_isKind cX7_isKind := by
  unfold en_De
  decide +kernel
def k_X7_isKind_0 : en_K := (1, ([.inl (0, 65535, 0, 0)], []), [([.inl (0, 65535, 0, 0), .inl (0, 1, 0, 0)], [])], [(43, 0)], [43], (1, 9), [])
def u_X7_isKind_0 : List en_U := [
  (61, ([.inl (0, 65535, 0, 0), .inl (0, 9, 0, 0), .inl (9, 9, 0, 0), .inr (.inl 43), .inl (0, 1, 0, 0)], []), [(0, 0), (4, 1), (3, 2), (2, 3), (1, 4)], (1, 9), [((-2), 1)], 22)]
def x_X7_isKind_0 : en_Cx := ((en_KT, en_TY0, en_om0), en_FTX7, en_PTX7, [], en_LTX7, en_LLX7, en_TTX7, en_ACX7)
def m_X7_isKind_0 : en_Mx := (k_X7_isKind_0, 0, 6, (0, 2), tb_X7_isKind, [(4, 43)])
set_option maxRecDepth 100000 in
theorem ck_X7_isKind_0 : en_all x_X7_isKind_0 m_X7_isKind_0 u_X7_isKind_0 49 = true := by decide +kernel
theorem ct_X7_isKind_0 {l : Launch} (hl : l.stackTraces = false) {cx cy : Int32} : en_Ctr l vwCl en_TY0 (en_Pc cx cy) en_om0 (en_Of cx cy) en_KT yX7_isKind (Cond.code yX7_isKind cX7_isKind 6 (some .boolean) :: en_cw) (en_rm 0 (1, 9)) 0 k_X7_isKind_0 :=
  en_main (X := x_X7_isKind_0) (M := m_X7_isKind_0) en_Pc_ok en_f32_ok en_f64_ok hl (by decide +kernel) ⟨en_FTX7_ok, en_PTX7_ok, en_an, en_LTX7_ok, en_LLX7_ok, en_TTX7_ok hl, ⟨cw256, cw147⟩, en_ACX7_ok⟩ de_X7_isKind ck_X7_isKind_0
