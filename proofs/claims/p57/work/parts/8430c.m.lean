def tb_X7_strokes : en_Tb := [
  (22, [(0, .aload_n 0, 1), (1, .iload_n 1, 1), (2, .invokevirtual 245, 3), (5, .ifCond .eq 7, 3), (8, .iconst 0, 1), (9, .goto 12, 3), (12, .aload_n 0, 1), (13, .getfield 23, 3), (16, .iload_n 1, 1), (17, .aaload, 1), (18, .bipush 7, 2), (20, .iaload, 1), (21, .ireturn, 1)])]
set_option maxRecDepth 40000 in
theorem de_X7_strokes : en_De tb_X7_strokes cX7_strokes := by
  unfold en_De
  decide +kernel
def k_X7_strokes_0 : en_K := (2, ([.inr (.inl 20), .inl ((-2147483648), 2147483647, 0, 0), .inl (0, 0, 0, 0)], [(0, 0, 22, 2, 0, 0)]), [([.inr (.inl 20), .inl ((-2147483648), 2147483647, 0, 0), .inl (0, 0, 0, 0)], [])], [(20, 30)], [20], (0, 0), [])
def u_X7_strokes_0 : List en_U := []
def x_X7_strokes_0 : en_Cx := ((en_KT, en_TY0, en_om0), en_FTX7, en_PTX7, [(245, true, 13, 0, 2, k_X7_isNone_0)], en_LTX7, en_LLX7, en_TTX7, en_ACX7)
def m_X7_strokes_0 : en_Mx := (k_X7_strokes_0, 3, 2, (0, 0), tb_X7_strokes, [])
set_option maxRecDepth 100000 in
theorem ck_X7_strokes_0 : en_all x_X7_strokes_0 m_X7_strokes_0 u_X7_strokes_0 10 = true := by decide +kernel
theorem ct_X7_strokes_0 {l : Launch} (hl : l.stackTraces = false) {cx cy : Int32} : en_Ctr l vwCl en_TY0 (en_Pc cx cy) en_om0 (en_Of cx cy) en_KT yX7_strokes (Cond.code yX7_strokes cX7_strokes 2 (some .int) :: en_cw) (en_rm 3 (0, 0)) 0 k_X7_strokes_0 :=
  en_main (X := x_X7_strokes_0) (M := m_X7_strokes_0) en_Pc_ok en_f32_ok en_f64_ok hl (by decide +kernel) ⟨en_FTX7_ok, en_PTX7_ok, en_ac (⟨yX7_isNone, RX7, cX7_isNone, 2, (some .boolean), by decide, ct_X7_isNone_0 hl, fun _ => ⟨gc_RX7_245v, by decide, _, rfl, rfl⟩, fun h => Bool.noConfusion h⟩) en_an, en_LTX7_ok, en_LLX7_ok, en_TTX7_ok hl, ⟨cw256, cw147⟩, en_ACX7_ok⟩ de_X7_strokes ck_X7_strokes_0
def k_X7_strokes_1 : en_K := (2, ([.inr (.inl 20), .inl ((-2147483648), 2147483647, 0, 0), .inl (1, 1, 0, 0)], [(0, 0, 22, 2, 0, 0), (5, 0, 0, 0, 0, 0)]), [([.inr (.inl 20), .inl ((-2147483648), 2147483647, 0, 0), .inl ((-2147483648), 2147483647, 0, 0)], [(5, 0, 0, 0, 0, 0)])], [(20, 30)], [20, 26, 27], (0, 0), [])
def u_X7_strokes_1 : List en_U := []
def x_X7_strokes_1 : en_Cx := ((en_KT, en_TY0, en_om0), en_FTX7, en_PTX7, [(245, true, 13, 0, 2, k_X7_isNone_1)], en_LTX7, en_LLX7, en_TTX7, en_ACX7)
def m_X7_strokes_1 : en_Mx := (k_X7_strokes_1, 3, 2, (0, 0), tb_X7_strokes, [])
set_option maxRecDepth 100000 in
theorem ck_X7_strokes_1 : en_all x_X7_strokes_1 m_X7_strokes_1 u_X7_strokes_1 14 = true := by decide +kernel
theorem ct_X7_strokes_1 {l : Launch} (hl : l.stackTraces = false) {cx cy : Int32} : en_Ctr l vwCl en_TY0 (en_Pc cx cy) en_om0 (en_Of cx cy) en_KT yX7_strokes (Cond.code yX7_strokes cX7_strokes 2 (some .int) :: en_cw) (en_rm 3 (0, 0)) 0 k_X7_strokes_1 :=
  en_main (X := x_X7_strokes_1) (M := m_X7_strokes_1) en_Pc_ok en_f32_ok en_f64_ok hl (by decide +kernel) ⟨en_FTX7_ok, en_PTX7_ok, en_ac (⟨yX7_isNone, RX7, cX7_isNone, 2, (some .boolean), by decide, ct_X7_isNone_1 hl, fun _ => ⟨gc_RX7_245v, by decide, _, rfl, rfl⟩, fun h => Bool.noConfusion h⟩) en_an, en_LTX7_ok, en_LLX7_ok, en_TTX7_ok hl, ⟨cw256, cw147⟩, en_ACX7_ok⟩ de_X7_strokes ck_X7_strokes_1
def tb_X7_suspend : en_Tb := [
  (28, [(0, .aload_n 0, 1), (1, .aload_n 0, 1), (2, .getfield 135, 3), (5, .ifCond .ne 7, 3), (8, .iconst 1, 1), (9, .goto 4, 3), (12, .iconst 0, 1), (13, .iconst 1, 1), (14, .invokevirtual 110, 3), (17, .ifCond .eq 5, 3), (20, .iconst 0, 1), (21, .ireturn, 1), (22, .aload_n 0, 1), (23, .getfield 145, 3), (26, .istore_n 2, 1), (27, .aload_n 0, 1)]), 
  (34, [(28, .iload_n 1, 1), (29, .putfield 145, 3), (32, .iload_n 2, 1), (33, .ireturn, 1)])]
set_option maxRecDepth 40000 in
theorem de_X7_suspend : en_De tb_X7_suspend cX7_suspend := by
  unfold en_De
  decide +kernel
def k_X7_suspend_0 : en_K := (2, ([.inr (.inl 20), .inl (0, 1, 0, 0), .inl (0, 0, 0, 0)], [(0, 0, 22, 2, 0, 0)]), [([.inr (.inl 20), .inl (0, 1, 0, 0), .inl (0, 0, 0, 0)], [])], [(20, 30)], [20], (0, 0), [])
def u_X7_suspend_0 : List en_U := []
def x_X7_suspend_0 : en_Cx := ((en_KT, en_TY0, en_om0), en_FTX7, en_PTX7, [(110, true, 13, 0, 0, k_X7_isThrown_0)], en_LTX7, en_LLX7, en_TTX7, en_ACX7)
def m_X7_suspend_0 : en_Mx := (k_X7_suspend_0, 1, 3, (0, 2), tb_X7_suspend, [])
set_option maxRecDepth 100000 in
theorem ck_X7_suspend_0 : en_all x_X7_suspend_0 m_X7_suspend_0 u_X7_suspend_0 14 = true := by decide +kernel
theorem ct_X7_suspend_0 {l : Launch} (hl : l.stackTraces = false) {cx cy : Int32} : en_Ctr l vwCl en_TY0 (en_Pc cx cy) en_om0 (en_Of cx cy) en_KT yX7_suspend (Cond.code yX7_suspend cX7_suspend 3 (some .boolean) :: en_cw) (en_rm 1 (0, 0)) 0 k_X7_suspend_0 :=
  en_main (X := x_X7_suspend_0) (M := m_X7_suspend_0) en_Pc_ok en_f32_ok en_f64_ok hl (by decide +kernel) ⟨en_FTX7_ok, en_PTX7_ok, en_ac (⟨yX7_isThrown, RX7, cX7_isThrown, 3, (some .boolean), by decide, ct_X7_isThrown_0 hl, fun _ => ⟨gc_RX7_110v, by decide, _, rfl, rfl⟩, fun h => Bool.noConfusion h⟩) en_an, en_LTX7_ok, en_LLX7_ok, en_TTX7_ok hl, ⟨cw256, cw147⟩, en_ACX7_ok⟩ de_X7_suspend ck_X7_suspend_0
def k_X7_suspend_1 : en_K := (2, ([.inr (.inl 20), .inl (0, 1, 0, 0), .inl (1, 1, 0, 0)], [(0, 0, 22, 2, 0, 0), (5, 0, 0, 0, 0, 0)]), [([.inr (.inl 20), .inl (0, 1, 0, 0), .inl (0, 1, 0, 0)], [(0, 0, 23, 1, 0, 0), (5, 0, 0, 0, 0, 0)])], [(20, 23), (20, 30)], [20], (0, 0), [])
def u_X7_suspend_1 : List en_U := []
def x_X7_suspend_1 : en_Cx := ((en_KT, en_TY0, en_om0), en_FTX7, en_PTX7, [(110, true, 13, 0, 0, k_X7_isThrown_4)], en_LTX7, en_LLX7, en_TTX7, en_ACX7)
def m_X7_suspend_1 : en_Mx := (k_X7_suspend_1, 1, 3, (0, 2), tb_X7_suspend, [])
set_option maxRecDepth 100000 in
theorem ck_X7_suspend_1 : en_all x_X7_suspend_1 m_X7_suspend_1 u_X7_suspend_1 19 = true := by decide +kernel
theorem ct_X7_suspend_1 {l : Launch} (hl : l.stackTraces = false) {cx cy : Int32} : en_Ctr l vwCl en_TY0 (en_Pc cx cy) en_om0 (en_Of cx cy) en_KT yX7_suspend (Cond.code yX7_suspend cX7_suspend 3 (some .boolean) :: en_cw) (en_rm 1 (0, 0)) 0 k_X7_suspend_1 :=
  en_main (X := x_X7_suspend_1) (M := m_X7_suspend_1) en_Pc_ok en_f32_ok en_f64_ok hl (by decide +kernel) ⟨en_FTX7_ok, en_PTX7_ok, en_ac (⟨yX7_isThrown, RX7, cX7_isThrown, 3, (some .boolean), by decide, ct_X7_isThrown_4 hl, fun _ => ⟨gc_RX7_110v, by decide, _, rfl, rfl⟩, fun h => Bool.noConfusion h⟩) en_an, en_LTX7_ok, en_LLX7_ok, en_TTX7_ok hl, ⟨cw256, cw147⟩, en_ACX7_ok⟩ de_X7_suspend ck_X7_suspend_1
def tb_X7_together : en_Tb := [
  (30, [(0, .aload_n 0, 1), (1, .aload_n 0, 1), (2, .iload_n 1, 1), (3, .invokevirtual 132, 3), (6, .ifCond .ne 11, 3), (9, .aload_n 0, 1), (10, .iload_n 2, 1), (11, .invokevirtual 132, 3), (14, .ifCond .eq 7, 3), (17, .iconst 1, 1), (18, .goto 4, 3), (21, .iconst 0, 1), (22, .iconst 1, 1), (23, .invokevirtual 110, 3), (26, .ifCond .ne 21, 3), (29, .aload_n 0, 1)]), 
  (55, [(30, .iload_n 1, 1), (31, .iload_n 2, 1), (32, .if_icmp .ne 7, 3), (35, .iconst 1, 1), (36, .goto 4, 3), (39, .iconst 0, 1), (40, .iconst 2, 1), (41, .invokevirtual 110, 3), (44, .ifCond .eq 5, 3), (47, .iconst 0, 1), (48, .ireturn, 1), (49, .iconst 0, 1), (50, .istore_n 3, 1), (51, .iconst 0, 1), (52, .istore 4, 2), (54, .iconst 0, 1)]), 
  (86, [(55, .istore 5, 2), (57, .iload 5, 2), (59, .aload_n 0, 1), (60, .getfield 86, 3), (63, .if_icmp .ge 99, 3), (66, .aload_n 0, 1), (67, .getfield 35, 3), (70, .iload_n 1, 1), (71, .aaload, 1), (72, .iload 5, 2), (74, .iaload, 1), (75, .ifCond .ne 9, 3), (78, .sipush 9999, 3), (81, .goto 10, 3), (84, .aload_n 0, 1), (85, .iload_n 1, 1)]), 
  (116, [(86, .iload 5, 2), (88, .invokevirtual 258, 3), (91, .istore 6, 2), (93, .aload_n 0, 1), (94, .getfield 35, 3), (97, .iload_n 2, 1), (98, .aaload, 1), (99, .iload 5, 2), (101, .iaload, 1), (102, .ifCond .ne 9, 3), (105, .sipush 9999, 3), (108, .goto 10, 3), (111, .aload_n 0, 1), (112, .iload_n 2, 1), (113, .iload 5, 2), (115, .invokevirtual 258, 3)]), 
  (150, [(118, .istore 7, 2), (120, .iload 4, 2), (122, .iload 6, 2), (124, .sipush 9999, 3), (127, .if_icmp .ne 15, 3), (130, .iload 7, 2), (132, .sipush 9999, 3), (135, .if_icmp .ne 7, 3), (138, .iconst 1, 1), (139, .goto 4, 3), (142, .iconst 0, 1), (143, .ior, 1), (144, .istore 4, 2), (146, .iload_n 3, 1), (147, .iload 6, 2), (149, .iload 7, 2)]), 
  (178, [(151, .invokestatic 269, 3), (154, .iadd, 1), (155, .istore_n 3, 1), (156, .iinc 5 1, 3), (159, .goto (-102), 3), (162, .aload_n 0, 1), (163, .iload 4, 2), (165, .iconst 3, 1), (166, .invokevirtual 110, 3), (169, .ifCond .eq 7, 3), (172, .iconst 0, 1), (173, .goto 4, 3), (176, .iload_n 3, 1), (177, .ireturn, 1)])]
set_option maxRecDepth 40000 in
theorem de_X7_together : en_De tb_X7_together cX7_together := by
  unfold en_De
  decide +kernel
def k_X7_together_0 : en_K := (3, ([.inr (.inl 20), .inl ((-2147483648), 2147483647, 0, 0), .inl ((-2147483648), 2147483647, 0, 0)], []), [([.inr (.inl 20), .inl ((-2147483648), 2147483647, 0, 0), .inl ((-2147483648), 2147483647, 0, 0), .inl ((-2147483648), 2147483647, 0, 0)], [])], [(20, 30)], [20, 21, 22, 25, 33, 34], (0, 0), [])
def u_X7_together_0 : List en_U := [
  (57, ([.inr (.inl 20), .inl (0, 5, 0, 0), .inl (0, 5, 0, 0), .inl (0, 9, 0, 0), .inl (0, 1, 0, 0), .inl ((-2147483648), 2147483647, 0, 0), .inl (1, 6, 0, 0)], [(0, 0, 17, 6, 0, 0), (12, 1, 2, 0, 0, 0)]), [(0, 0), (1, 1), (2, 2), (5, 3), (4, 4), (3, 5)], (0, 0), [((-2), 3)], 22)]
def x_X7_together_0 : en_Cx := ((en_KT, en_TY0, en_om0), en_FTX7, en_PTX7, [(110, true, 13, 0, 0, k_X7_isThrown_0), (110, true, 13, 0, 0, k_X7_isThrown_1), (110, true, 13, 0, 0, k_X7_isThrown_2), (110, true, 13, 0, 0, k_X7_isThrown_8), (110, true, 13, 0, 0, k_X7_isThrown_18), (132, true, 13, 0, 1, k_X7_isNoPlayer_0), (258, true, 13, 0, 1, k_X7_net_0), (269, false, 0, 0, 0, k_J9_min_7cf53_0)], en_LTX7, en_LLX7, en_TTX7, en_ACX7)
def m_X7_together_0 : en_Mx := (k_X7_together_0, 2, 8, (0, 0), tb_X7_together, [])
set_option maxRecDepth 100000 in
theorem ck_X7_together_0 : en_all x_X7_together_0 m_X7_together_0 u_X7_together_0 50 = true := by decide +kernel
theorem ct_X7_together_0 {l : Launch} (hl : l.stackTraces = false) {cx cy : Int32} : en_Ctr l vwCl en_TY0 (en_Pc cx cy) en_om0 (en_Of cx cy) en_KT yX7_together (Cond.code yX7_together cX7_together 8 (some .int) :: en_cw) (en_rm 2 (0, 0)) 0 k_X7_together_0 :=
  en_main (X := x_X7_together_0) (M := m_X7_together_0) en_Pc_ok en_f32_ok en_f64_ok hl (by decide +kernel) ⟨en_FTX7_ok, en_PTX7_ok, en_ac (⟨yX7_isThrown, RX7, cX7_isThrown, 3, (some .boolean), by decide, ct_X7_isThrown_0 hl, fun _ => ⟨gc_RX7_110v, by decide, _, rfl, rfl⟩, fun h => Bool.noConfusion h⟩) (en_ac (⟨yX7_isThrown, RX7, cX7_isThrown, 3, (some .boolean), by decide, ct_X7_isThrown_1 hl, fun _ => ⟨gc_RX7_110v, by decide, _, rfl, rfl⟩, fun h => Bool.noConfusion h⟩) (en_ac (⟨yX7_isThrown, RX7, cX7_isThrown, 3, (some .boolean), by decide, ct_X7_isThrown_2 hl, fun _ => ⟨gc_RX7_110v, by decide, _, rfl, rfl⟩, fun h => Bool.noConfusion h⟩) (en_ac (⟨yX7_isThrown, RX7, cX7_isThrown, 3, (some .boolean), by decide, ct_X7_isThrown_8 hl, fun _ => ⟨gc_RX7_110v, by decide, _, rfl, rfl⟩, fun h => Bool.noConfusion h⟩) (en_ac (⟨yX7_isThrown, RX7, cX7_isThrown, 3, (some .boolean), by decide, ct_X7_isThrown_18 hl, fun _ => ⟨gc_RX7_110v, by decide, _, rfl, rfl⟩, fun h => Bool.noConfusion h⟩) (en_ac (⟨yX7_isNoPlayer, RX7, cX7_isNoPlayer, 2, (some .boolean), by decide, ct_X7_isNoPlayer_0 hl, fun _ => ⟨gc_RX7_132v, by decide, _, rfl, rfl⟩, fun h => Bool.noConfusion h⟩) (en_ac (⟨yX7_net, RX7, cX7_net, 3, (some .int), by decide, ct_X7_net_0 hl, fun _ => ⟨gc_RX7_258v, by decide, _, rfl, rfl⟩, fun h => Bool.noConfusion h⟩) (en_ac (⟨yJ9_min_7cf53, RJ9, cJ9_min_7cf53, 2, (some .int), by decide, ct_J9_min_7cf53_0 hl en_Pc_ok _, fun h => Bool.noConfusion h, fun _ => gc_RX7_269s⟩) en_an))))))), en_LTX7_ok, en_LLX7_ok, en_TTX7_ok hl, ⟨cw256, cw147⟩, en_ACX7_ok⟩ de_X7_together ck_X7_together_0
def k_X7_together_1 : en_K := (3, ([.inr (.inl 20), .inl ((-2147483648), 2147483647, 0, 0), .inl ((-2147483648), 2147483647, 0, 0), .inl (1, 9, 0, 0)], [(0, 0, 16, 3, 0, 0), (5, 0, 0, 0, 0, 0)]), [([.inr (.inl 20), .inl ((-2147483648), 2147483647, 0, 0), .inl ((-2147483648), 2147483647, 0, 0), .inl ((-2147483648), 2147483647, 0, 0)], [(5, 0, 0, 0, 0, 0)])], [(20, 30)], [20, 21, 22, 25, 33, 34], (0, 0), [])
def u_X7_together_1 : List en_U := [
  (57, ([.inr (.inl 20), .inl (0, 5, 0, 0), .inl (0, 5, 0, 0), .inl (0, 9, 0, 0), .inl (0, 1, 0, 0), .inl ((-2147483648), 2147483647, 0, 0), .inl (1, 9, 0, 0), .inl (1, 6, 0, 0)], [(0, 0, 16, 6, 0, 0), (0, 0, 17, 7, 0, 0), (5, 0, 0, 0, 0, 0), (12, 1, 2, 0, 0, 0)]), [(0, 0), (1, 1), (2, 2), (5, 3), (4, 4), (3, 5)], (0, 0), [((-2), 3)], 22)]
def x_X7_together_1 : en_Cx := ((en_KT, en_TY0, en_om0), en_FTX7, en_PTX7, [(110, true, 13, 0, 0, k_X7_isThrown_11), (110, true, 13, 0, 0, k_X7_isThrown_3), (110, true, 13, 0, 0, k_X7_isThrown_4), (110, true, 13, 0, 0, k_X7_isThrown_5), (110, true, 13, 0, 0, k_X7_isThrown_22), (132, true, 13, 0, 1, k_X7_isNoPlayer_1), (258, true, 13, 0, 1, k_X7_net_1), (269, false, 0, 0, 0, k_J9_min_7cf53_0)], en_LTX7, en_LLX7, en_TTX7, en_ACX7)
def m_X7_together_1 : en_Mx := (k_X7_together_1, 2, 8, (0, 0), tb_X7_together, [])
set_option maxRecDepth 100000 in
theorem ck_X7_together_1 : en_all x_X7_together_1 m_X7_together_1 u_X7_together_1 50 = true := by decide +kernel
theorem ct_X7_together_1 {l : Launch} (hl : l.stackTraces = false) {cx cy : Int32} : en_Ctr l vwCl en_TY0 (en_Pc cx cy) en_om0 (en_Of cx cy) en_KT yX7_together (Cond.code yX7_together cX7_together 8 (some .int) :: en_cw) (en_rm 2 (0, 0)) 0 k_X7_together_1 :=
  en_main (X := x_X7_together_1) (M := m_X7_together_1) en_Pc_ok en_f32_ok en_f64_ok hl (by decide +kernel) ⟨en_FTX7_ok, en_PTX7_ok, en_ac (⟨yX7_isThrown, RX7, cX7_isThrown, 3, (some .boolean), by decide, ct_X7_isThrown_11 hl, fun _ => ⟨gc_RX7_110v, by decide, _, rfl, rfl⟩, fun h => Bool.noConfusion h⟩) (en_ac (⟨yX7_isThrown, RX7, cX7_isThrown, 3, (some .boolean), by decide, ct_X7_isThrown_3 hl, fun _ => ⟨gc_RX7_110v, by decide, _, rfl, rfl⟩, fun h => Bool.noConfusion h⟩) (en_ac (⟨yX7_isThrown, RX7, cX7_isThrown, 3, (some .boolean), by decide, ct_X7_isThrown_4 hl, fun _ => ⟨gc_RX7_110v, by decide, _, rfl, rfl⟩, fun h => Bool.noConfusion h⟩) (en_ac (⟨yX7_isThrown, RX7, cX7_isThrown, 3, (some .boolean), by decide, ct_X7_isThrown_5 hl, fun _ => ⟨gc_RX7_110v, by decide, _, rfl, rfl⟩, fun h => Bool.noConfusion h⟩) (en_ac (⟨yX7_isThrown, RX7, cX7_isThrown, 3, (some .boolean), by decide, ct_X7_isThrown_22 hl, fun _ => ⟨gc_RX7_110v, by decide, _, rfl, rfl⟩, fun h => Bool.noConfusion h⟩) (en_ac (⟨yX7_isNoPlayer, RX7, cX7_isNoPlayer, 2, (some .boolean), by decide, ct_X7_isNoPlayer_1 hl, fun _ => ⟨gc_RX7_132v, by decide, _, rfl, rfl⟩, fun h => Bool.noConfusion h⟩) (en_ac (⟨yX7_net, RX7, cX7_net, 3, (some .int), by decide, ct_X7_net_1 hl, fun _ => ⟨gc_RX7_258v, by decide, _, rfl, rfl⟩, fun h => Bool.noConfusion h⟩) (en_ac (⟨yJ9_min_7cf53, RJ9, cJ9_min_7cf53, 2, (some .int), by decide, ct_J9_min_7cf53_0 hl en_Pc_ok _, fun h => Bool.noConfusion h, fun _ => gc_RX7_269s⟩) en_an))))))), en_LTX7_ok, en_LLX7_ok, en_TTX7_ok hl, ⟨cw256, cw147⟩, en_ACX7_ok⟩ de_X7_together ck_X7_together_1
def tb_X7_isWhole : en_Tb := [
  (22, [(0, .iconst 1, 1), (1, .istore_n 2, 1), (2, .iconst 0, 1), (3, .istore_n 3, 1), (4, .iload_n 3, 1), (5, .aload_n 0, 1), (6, .getfield 86, 3), (9, .if_icmp .ge 28, 3), (12, .iload_n 2, 1), (13, .aload_n 0, 1), (14, .getfield 35, 3), (17, .iload_n 1, 1), (18, .aaload, 1), (19, .iload_n 3, 1), (20, .iaload, 1), (21, .ifCond .le 7, 3)]), 
  (39, [(24, .iconst 1, 1), (25, .goto 4, 3), (28, .iconst 0, 1), (29, .iand, 1), (30, .istore_n 2, 1), (31, .iinc 3 1, 3), (34, .goto (-30), 3), (37, .iload_n 2, 1), (38, .ireturn, 1)])]
set_option maxRecDepth 40000 in
theorem de_X7_isWhole : en_De tb_X7_isWhole cX7_isWhole := by
  unfold en_De
  decide +kernel
def k_X7_isWhole_0 : en_K := (2, ([.inr (.inl 20), .inl (0, 5, 0, 0)], []), [([.inr (.inl 20), .inl (0, 5, 0, 0), .inl (0, 1, 0, 0)], [])], [], [20, 33, 34], (0, 0), [])
def u_X7_isWhole_0 : List en_U := [
  (4, ([.inr (.inl 20), .inl (0, 5, 0, 0), .inl (0, 9, 0, 0), .inl (0, 1, 0, 0)], []), [(0, 0), (1, 1), (3, 2), (2, 3)], (0, 0), [((-2), 2)], 22)]
def x_X7_isWhole_0 : en_Cx := ((en_KT, en_TY0, en_om0), en_FTX7, en_PTX7, [], en_LTX7, en_LLX7, en_TTX7, en_ACX7)
def m_X7_isWhole_0 : en_Mx := (k_X7_isWhole_0, 0, 4, (0, 2), tb_X7_isWhole, [])
set_option maxRecDepth 100000 in
theorem ck_X7_isWhole_0 : en_all x_X7_isWhole_0 m_X7_isWhole_0 u_X7_isWhole_0 21 = true := by decide +kernel
theorem ct_X7_isWhole_0 {l : Launch} (hl : l.stackTraces = false) {cx cy : Int32} : en_Ctr l vwCl en_TY0 (en_Pc cx cy) en_om0 (en_Of cx cy) en_KT yX7_isWhole (Cond.code yX7_isWhole cX7_isWhole 4 (some .boolean) :: en_cw) (en_rm 0 (0, 0)) 0 k_X7_isWhole_0 :=
  en_main (X := x_X7_isWhole_0) (M := m_X7_isWhole_0) en_Pc_ok en_f32_ok en_f64_ok hl (by decide +kernel) ⟨en_FTX7_ok, en_PTX7_ok, en_an, en_LTX7_ok, en_LLX7_ok, en_TTX7_ok hl, ⟨cw256, cw147⟩, en_ACX7_ok⟩ de_X7_isWhole ck_X7_isWhole_0
def tb_X7_total : en_Tb := [
  (28, [(0, .aload_n 0, 1), (1, .aload_n 0, 1), (2, .iload_n 1, 1), (3, .invokevirtual 132, 3), (6, .iconst 1, 1), (7, .invokevirtual 110, 3), (10, .ifCond .ne 24, 3), (13, .aload_n 0, 1), (14, .aload_n 0, 1), (15, .iload_n 1, 1), (16, .invokevirtual 252, 3), (19, .ifCond .ne 7, 3), (22, .iconst 1, 1), (23, .goto 4, 3), (26, .iconst 0, 1), (27, .iconst 2, 1)]), 
  (45, [(28, .invokevirtual 110, 3), (31, .ifCond .eq 7, 3), (34, .iconst 0, 1), (35, .goto 9, 3), (38, .aload_n 0, 1), (39, .iload_n 1, 1), (40, .iconst 0, 1), (41, .invokevirtual 255, 3), (44, .ireturn, 1)])]
set_option maxRecDepth 40000 in
theorem de_X7_total : en_De tb_X7_total cX7_total := by
  unfold en_De
  decide +kernel
def k_X7_total_0 : en_K := (2, ([.inr (.inl 20), .inl ((-2147483648), 2147483647, 0, 0)], []), [([.inr (.inl 20), .inl ((-2147483648), 2147483647, 0, 0), .inl ((-2147483648), 2147483647, 0, 0)], [])], [(20, 30)], [20, 33, 34], (0, 0), [])
def u_X7_total_0 : List en_U := []
def x_X7_total_0 : en_Cx := ((en_KT, en_TY0, en_om0), en_FTX7, en_PTX7, [(110, true, 13, 0, 0, k_X7_isThrown_0), (110, true, 13, 0, 0, k_X7_isThrown_1), (110, true, 13, 0, 0, k_X7_isThrown_2), (110, true, 13, 0, 0, k_X7_isThrown_8), (132, true, 13, 0, 1, k_X7_isNoPlayer_0), (252, true, 13, 0, 0, k_X7_isWhole_0), (255, true, 13, 0, 0, k_X7_sumFrom_0)], en_LTX7, en_LLX7, en_TTX7, en_ACX7)
def m_X7_total_0 : en_Mx := (k_X7_total_0, 2, 2, (0, 0), tb_X7_total, [])
set_option maxRecDepth 100000 in
theorem ck_X7_total_0 : en_all x_X7_total_0 m_X7_total_0 u_X7_total_0 24 = true := by decide +kernel
theorem ct_X7_total_0 {l : Launch} (hl : l.stackTraces = false) {cx cy : Int32} : en_Ctr l vwCl en_TY0 (en_Pc cx cy) en_om0 (en_Of cx cy) en_KT yX7_total (Cond.code yX7_total cX7_total 2 (some .int) :: en_cw) (en_rm 2 (0, 0)) 0 k_X7_total_0 :=
  en_main (X := x_X7_total_0) (M := m_X7_total_0) en_Pc_ok en_f32_ok en_f64_ok hl (by decide +kernel) ⟨en_FTX7_ok, en_PTX7_ok, en_ac (⟨yX7_isThrown, RX7, cX7_isThrown, 3, (some .boolean), by decide, ct_X7_isThrown_0 hl, fun _ => ⟨gc_RX7_110v, by decide, _, rfl, rfl⟩, fun h => Bool.noConfusion h⟩) (en_ac (⟨yX7_isThrown, RX7, cX7_isThrown, 3, (some .boolean), by decide, ct_X7_isThrown_1 hl, fun _ => ⟨gc_RX7_110v, by decide, _, rfl, rfl⟩, fun h => Bool.noConfusion h⟩) (en_ac (⟨yX7_isThrown, RX7, cX7_isThrown, 3, (some .boolean), by decide, ct_X7_isThrown_2 hl, fun _ => ⟨gc_RX7_110v, by decide, _, rfl, rfl⟩, fun h => Bool.noConfusion h⟩) (en_ac (⟨yX7_isThrown, RX7, cX7_isThrown, 3, (some .boolean), by decide, ct_X7_isThrown_8 hl, fun _ => ⟨gc_RX7_110v, by decide, _, rfl, rfl⟩, fun h => Bool.noConfusion h⟩) (en_ac (⟨yX7_isNoPlayer, RX7, cX7_isNoPlayer, 2, (some .boolean), by decide, ct_X7_isNoPlayer_0 hl, fun _ => ⟨gc_RX7_132v, by decide, _, rfl, rfl⟩, fun h => Bool.noConfusion h⟩) (en_ac (⟨yX7_isWhole, RX7, cX7_isWhole, 4, (some .boolean), by decide, ct_X7_isWhole_0 hl, fun _ => ⟨gc_RX7_252v, by decide, _, rfl, rfl⟩, fun h => Bool.noConfusion h⟩) (en_ac (⟨yX7_sumFrom, RX7, cX7_sumFrom, 5, (some .int), by decide, ct_X7_sumFrom_0 hl, fun _ => ⟨gc_RX7_255v, by decide, _, rfl, rfl⟩, fun h => Bool.noConfusion h⟩) en_an)))))), en_LTX7_ok, en_LLX7_ok, en_TTX7_ok hl, ⟨cw256, cw147⟩, en_ACX7_ok⟩ de_X7_total ck_X7_total_0
