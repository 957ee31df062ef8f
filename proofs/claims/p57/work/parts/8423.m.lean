def k_X7_reach_1 : en_K := (4, ([.inr (.inl 20), .inl (0, 29, 0, 0), .inl (0, 19, 0, 0), .inl (0, 0, 0, 0), .inl (0, 8, 0, 0)], [(0, 0, 25, 4, 0, 0), (5, 0, 0, 0, 0, 0)]), [([.inr (.inl 20), .inl (0, 29, 0, 0), .inl (0, 19, 0, 0), .inl (0, 0, 0, 0), .inl (10, 10, 0, 0)], [(5, 0, 0, 0, 0, 0)]), ([.inr (.inl 20), .inl (0, 29, 0, 0), .inl (0, 19, 0, 0), .inl (0, 0, 0, 0), .inl (4, 4, 0, 0)], [(5, 0, 0, 0, 0, 0)]), ([.inr (.inl 20), .inl (0, 29, 0, 0), .inl (0, 19, 0, 0), .inl (0, 0, 0, 0), .inl (5, 5, 0, 0)], [(5, 0, 0, 0, 0, 0)]), ([.inr (.inl 20), .inl (0, 29, 0, 0), .inl (0, 19, 0, 0), .inl (0, 0, 0, 0), .inl (6, 6, 0, 0)], [(5, 0, 0, 0, 0, 0)])], [], [20, 23, 24], (0, 0), [])
def u_X7_reach_1 : List en_U := []
def x_X7_reach_1 : en_Cx := ((en_KT, en_TY0, en_om0), en_FTX7, en_PTX7, [(175, true, 13, 0, 0, k_X7_kind_0)], en_LTX7, en_LLX7, en_TTX7, en_ACX7)
def m_X7_reach_1 : en_Mx := (k_X7_reach_1, 1, 5, (0, 0), tb_X7_reach, [])
set_option maxRecDepth 100000 in
theorem ck_X7_reach_1 : en_all x_X7_reach_1 m_X7_reach_1 u_X7_reach_1 28 = true := by decide +kernel
theorem ct_X7_reach_1 {l : Launch} (hl : l.stackTraces = false) {cx cy : Int32} : en_Ctr l vwCl en_TY0 (en_Pc cx cy) en_om0 (en_Of cx cy) en_KT yX7_reach (Cond.code yX7_reach cX7_reach 5 (some .int) :: en_cw) (en_rm 1 (0, 0)) 0 k_X7_reach_1 :=
  en_main (X := x_X7_reach_1) (M := m_X7_reach_1) en_Pc_ok en_f32_ok en_f64_ok hl (by decide +kernel) ⟨en_FTX7_ok, en_PTX7_ok, en_ac (⟨yX7_kind, RX7, cX7_kind, 3, (some .char), by decide, ct_X7_kind_0 hl, fun _ => ⟨gc_RX7_175v, by decide, _, rfl, rfl⟩, fun h => Bool.noConfusion h⟩) en_an, en_LTX7_ok, en_LLX7_ok, en_TTX7_ok hl, ⟨cw256, cw147⟩, en_ACX7_ok⟩ de_X7_reach ck_X7_reach_1
def tb_X7_isNoStroke : en_Tb := [
  (26, [(0, .aload_n 1, 1), (1, .iconst 0, 1), (2, .iaload, 1), (3, .bipush 110, 2), (5, .if_icmp .eq 11, 3), (8, .aload_n 1, 1), (9, .iconst 0, 1), (10, .iaload, 1), (11, .bipush 108, 2), (13, .if_icmp .ne 7, 3), (16, .iconst 1, 1), (17, .goto 4, 3), (20, .iconst 0, 1), (21, .istore 4, 2), (23, .iload 4, 2), (25, .ifCond .eq 28, 3)]), 
  (48, [(28, .aload_n 0, 1), (29, .aload_n 1, 1), (30, .iconst 1, 1), (31, .iaload, 1), (32, .aload_n 1, 1), (33, .iconst 2, 1), (34, .iaload, 1), (35, .aload_n 1, 1), (36, .iconst 3, 1), (37, .iaload, 1), (38, .iconst 1, 1), (39, .if_icmp .ne 7, 3), (42, .iconst 1, 1), (43, .goto 4, 3), (46, .iconst 0, 1), (47, .invokevirtual 183, 3)]), 
  (75, [(50, .goto 4, 3), (53, .iconst 0, 1), (54, .istore 5, 2), (56, .iload_n 2, 1), (57, .iload_n 3, 1), (58, .aload_n 1, 1), (59, .iconst 1, 1), (60, .iaload, 1), (61, .aload_n 1, 1), (62, .iconst 2, 1), (63, .iaload, 1), (64, .invokestatic 102, 3), (67, .istore 6, 2), (69, .iload 4, 2), (71, .ifCond .eq 18, 3), (74, .iload 6, 2)]), 
  (95, [(76, .ifCond .eq 13, 3), (79, .iload 6, 2), (81, .iload 5, 2), (83, .iload 5, 2), (85, .imul, 1), (86, .if_icmp .le 7, 3), (89, .iconst 1, 1), (90, .goto 4, 3), (93, .iconst 0, 1), (94, .ireturn, 1)])]
set_option maxRecDepth 40000 in
theorem de_X7_isNoStroke : en_De tb_X7_isNoStroke cX7_isNoStroke := by
  unfold en_De
  decide +kernel
def k_X7_isNoStroke_0 : en_K := (4, ([.inr (.inl 20), .inr (.inl 27), .inl (0, 29, 0, 0), .inl (0, 19, 0, 0), .inl (0, 8, 0, 0)], [(0, 0, 25, 4, 0, 0), (5, 0, 0, 0, 0, 0)]), [([.inr (.inl 20), .inr (.inl 27), .inl (0, 29, 0, 0), .inl (0, 19, 0, 0), .inl (0, 0, 0, 0), .inl (108, 110, 0, 0), .inl (0, 29, 0, 0), .inl (0, 110, 0, 0), .inl ((-2147483648), 2147483647, 0, 0), .inl ((-2147483648), 2147483647, 0, 0), .inl (0, 1, 0, 0), .inl (0, 29, 0, 0), .inl (0, 19, 0, 0), .inl (0, 1, 0, 0), .inl (0, 29, 0, 0), .inl (0, 19, 0, 0), .inl (0, 29, 0, 0), .inl (0, 19, 0, 0), .inl (0, 19, 0, 0), .inl (0, 29, 0, 0), .inl (0, 19, 0, 0), .inl (0, 1, 0, 0)], [(1, 1, 0, 5, 0, 0), (1, 1, 1, 6, 0, 0), (1, 1, 10, 7, 0, 0), (1, 1, 11, 8, 0, 0), (1, 1, 12, 9, 0, 0), (1, 1, 13, 10, 0, 0), (1, 1, 14, 11, 0, 0), (1, 1, 15, 12, 0, 0), (1, 1, 16, 13, 0, 0), (1, 1, 17, 14, 0, 0), (1, 1, 18, 15, 0, 0), (1, 1, 19, 16, 0, 0), (1, 1, 2, 17, 0, 0), (1, 1, 20, 18, 0, 0), (1, 1, 4, 19, 0, 0), (1, 1, 5, 20, 0, 0), (1, 1, 9, 21, 0, 0), (2, 6, 17, 0, 0, 0), (3, 5, 6, 17, 108, 110), (3, 5, 19, 20, 108, 108), (3, 5, 19, 20, 115, 115), (3, 21, 19, 20, 1, 1), (3, 7, 8, 9, 108, 110), (3, 10, 19, 20, 1, 1), (3, 10, 11, 12, 1, 1), (3, 13, 14, 15, 1, 1), (3, 13, 16, 18, 1, 1), (5, 0, 0, 0, 0, 0), (10, 5, 6, 17, 115, 115)]), ([.inr (.inl 20), .inr (.inl 27), .inl (0, 29, 0, 0), .inl (0, 19, 0, 0), .inl (1, 1, 0, 0), .inl (0, 65535, 0, 0), .inl ((-2147483648), 2147483647, 0, 0), .inl (0, 110, 0, 0), .inl ((-2147483648), 2147483647, 0, 0), .inl ((-2147483648), 2147483647, 0, 0), .inl (0, 1, 0, 0), .inl (0, 29, 0, 0), .inl (0, 19, 0, 0), .inl (0, 1, 0, 0), .inl (0, 29, 0, 0), .inl (0, 19, 0, 0), .inl (0, 29, 0, 0), .inl ((-2147483648), 2147483647, 0, 0), .inl (0, 19, 0, 0), .inl (0, 29, 0, 0), .inl (0, 19, 0, 0), .inl (0, 1, 0, 0)], [(1, 1, 0, 5, 0, 0), (1, 1, 1, 6, 0, 0), (1, 1, 10, 7, 0, 0), (1, 1, 11, 8, 0, 0), (1, 1, 12, 9, 0, 0), (1, 1, 13, 10, 0, 0), (1, 1, 14, 11, 0, 0), (1, 1, 15, 12, 0, 0), (1, 1, 16, 13, 0, 0), (1, 1, 17, 14, 0, 0), (1, 1, 18, 15, 0, 0), (1, 1, 19, 16, 0, 0), (1, 1, 2, 17, 0, 0), (1, 1, 20, 18, 0, 0), (1, 1, 4, 19, 0, 0), (1, 1, 5, 20, 0, 0), (1, 1, 9, 21, 0, 0), (3, 5, 6, 17, 108, 110), (3, 5, 19, 20, 108, 108), (3, 5, 19, 20, 115, 115), (3, 21, 19, 20, 1, 1), (3, 7, 8, 9, 108, 110), (3, 10, 19, 20, 1, 1), (3, 10, 11, 12, 1, 1), (3, 13, 14, 15, 1, 1), (3, 13, 16, 18, 1, 1), (5, 0, 0, 0, 0, 0), (10, 5, 6, 17, 115, 115)])], [], [20, 23, 24, 27], (0, 0), [])
def u_X7_isNoStroke_0 : List en_U := []
def x_X7_isNoStroke_0 : en_Cx := ((en_KT, en_TY0, en_om0), en_FTX7, en_PTX7, [(102, false, 0, 0, 0, k_X7_far_0), (183, true, 13, 0, 1, k_X7_reach_1), (183, true, 13, 0, 1, k_X7_reach_0)], en_LTX7, en_LLX7, en_TTX7, en_ACX7)
def m_X7_isNoStroke_0 : en_Mx := (k_X7_isNoStroke_0, 2, 7, (0, 2), tb_X7_isNoStroke, [])
set_option maxRecDepth 100000 in
theorem ck_X7_isNoStroke_0 : en_all x_X7_isNoStroke_0 m_X7_isNoStroke_0 u_X7_isNoStroke_0 57 = true := by decide +kernel
theorem ct_X7_isNoStroke_0 {l : Launch} (hl : l.stackTraces = false) {cx cy : Int32} : en_Ctr l vwCl en_TY0 (en_Pc cx cy) en_om0 (en_Of cx cy) en_KT yX7_isNoStroke (Cond.code yX7_isNoStroke cX7_isNoStroke 7 (some .boolean) :: en_cw) (en_rm 2 (0, 0)) 0 k_X7_isNoStroke_0 :=
  en_main (X := x_X7_isNoStroke_0) (M := m_X7_isNoStroke_0) en_Pc_ok en_f32_ok en_f64_ok hl (by decide +kernel) ⟨en_FTX7_ok, en_PTX7_ok, en_ac (⟨yX7_far, RX7, cX7_far, 4, (some .int), by decide, ct_X7_far_0 hl, fun h => Bool.noConfusion h, fun _ => gc_RX7_102s⟩) (en_ac (⟨yX7_reach, RX7, cX7_reach, 5, (some .int), by decide, ct_X7_reach_1 hl, fun _ => ⟨gc_RX7_183v, by decide, _, rfl, rfl⟩, fun h => Bool.noConfusion h⟩) (en_ac (⟨yX7_reach, RX7, cX7_reach, 5, (some .int), by decide, ct_X7_reach_0 hl, fun _ => ⟨gc_RX7_183v, by decide, _, rfl, rfl⟩, fun h => Bool.noConfusion h⟩) en_an)), en_LTX7_ok, en_LLX7_ok, en_TTX7_ok hl, ⟨cw256, cw147⟩, en_ACX7_ok⟩ de_X7_isNoStroke ck_X7_isNoStroke_0
def tb_X7_spread : en_Tb := [
  (31, [(0, .aload_n 0, 1), (1, .iload_n 1, 1), (2, .iload_n 2, 1), (3, .invokevirtual 175, 3), (6, .istore 5, 2), (8, .iload 5, 2), (10, .bipush 100, 2), (12, .if_icmp .eq 17, 3), (15, .iload 5, 2), (17, .bipush 121, 2), (19, .if_icmp .eq 10, 3), (22, .iload 5, 2), (24, .bipush 114, 2), (26, .if_icmp .ne 7, 3), (29, .iconst 1, 1), (30, .goto 4, 3)]), 
  (65, [(33, .iconst 0, 1), (34, .istore 6, 2), (36, .iload_n 3, 1), (37, .ifCond .eq 7, 3), (40, .iconst 1, 1), (41, .goto 31, 3), (44, .iload 6, 2), (46, .ifCond .eq 7, 3), (49, .iconst 2, 1), (50, .goto 22, 3), (53, .iload 5, 2), (55, .bipush 103, 2), (57, .if_icmp .ne 14, 3), (60, .iload 4, 2), (62, .bipush 9, 2), (64, .if_icmp .gt 7, 3)]), 
  (73, [(67, .iconst 0, 1), (68, .goto 4, 3), (71, .iconst 1, 1), (72, .ireturn, 1)])]
set_option maxRecDepth 40000 in
theorem de_X7_spread : en_De tb_X7_spread cX7_spread := by
  unfold en_De
  decide +kernel
def k_X7_spread_0 : en_K := (5, ([.inr (.inl 20), .inl (0, 29, 0, 0), .inl (0, 19, 0, 0), .inl (1, 1, 0, 0), .inl ((-2147483648), 2147483647, 0, 0), .inl (0, 8, 0, 0)], [(0, 0, 25, 5, 0, 0), (5, 0, 0, 0, 0, 0)]), [([.inr (.inl 20), .inl (0, 29, 0, 0), .inl (0, 19, 0, 0), .inl (1, 1, 0, 0), .inl ((-2147483648), 2147483647, 0, 0), .inl (1, 1, 0, 0)], [(5, 0, 0, 0, 0, 0), (6, 3, 0, 0, 0, 0)])], [], [20, 23, 24], (0, 0), [])
def u_X7_spread_0 : List en_U := []
def x_X7_spread_0 : en_Cx := ((en_KT, en_TY0, en_om0), en_FTX7, en_PTX7, [(175, true, 13, 0, 0, k_X7_kind_0)], en_LTX7, en_LLX7, en_TTX7, en_ACX7)
def m_X7_spread_0 : en_Mx := (k_X7_spread_0, 1, 7, (0, 0), tb_X7_spread, [])
set_option maxRecDepth 100000 in
theorem ck_X7_spread_0 : en_all x_X7_spread_0 m_X7_spread_0 u_X7_spread_0 25 = true := by decide +kernel
theorem ct_X7_spread_0 {l : Launch} (hl : l.stackTraces = false) {cx cy : Int32} : en_Ctr l vwCl en_TY0 (en_Pc cx cy) en_om0 (en_Of cx cy) en_KT yX7_spread (Cond.code yX7_spread cX7_spread 7 (some .int) :: en_cw) (en_rm 1 (0, 0)) 0 k_X7_spread_0 :=
  en_main (X := x_X7_spread_0) (M := m_X7_spread_0) en_Pc_ok en_f32_ok en_f64_ok hl (by decide +kernel) ⟨en_FTX7_ok, en_PTX7_ok, en_ac (⟨yX7_kind, RX7, cX7_kind, 3, (some .char), by decide, ct_X7_kind_0 hl, fun _ => ⟨gc_RX7_175v, by decide, _, rfl, rfl⟩, fun h => Bool.noConfusion h⟩) en_an, en_LTX7_ok, en_LLX7_ok, en_TTX7_ok hl, ⟨cw256, cw147⟩, en_ACX7_ok⟩ de_X7_spread ck_X7_spread_0
def k_X7_spread_1 : en_K := (5, ([.inr (.inl 20), .inl (0, 29, 0, 0), .inl (0, 19, 0, 0), .inl (0, 0, 0, 0), .inl ((-2147483648), 2147483647, 0, 0), .inl (0, 8, 0, 0)], [(0, 0, 25, 5, 0, 0), (5, 0, 0, 0, 0, 0)]), [([.inr (.inl 20), .inl (0, 29, 0, 0), .inl (0, 19, 0, 0), .inl (0, 0, 0, 0), .inl ((-2147483648), 9, 0, 0), .inl (0, 0, 0, 0)], [(5, 0, 0, 0, 0, 0)]), ([.inr (.inl 20), .inl (0, 29, 0, 0), .inl (0, 19, 0, 0), .inl (0, 0, 0, 0), .inl ((-2147483648), 2147483647, 0, 0), .inl (1, 1, 0, 0)], [(5, 0, 0, 0, 0, 0)]), ([.inr (.inl 20), .inl (0, 29, 0, 0), .inl (0, 19, 0, 0), .inl (0, 0, 0, 0), .inl ((-2147483648), 2147483647, 0, 0), .inl (2, 2, 0, 0)], [(5, 0, 0, 0, 0, 0)])], [], [20, 23, 24], (0, 0), [])
def u_X7_spread_1 : List en_U := []
def x_X7_spread_1 : en_Cx := ((en_KT, en_TY0, en_om0), en_FTX7, en_PTX7, [(175, true, 13, 0, 0, k_X7_kind_0)], en_LTX7, en_LLX7, en_TTX7, en_ACX7)
def m_X7_spread_1 : en_Mx := (k_X7_spread_1, 1, 7, (0, 0), tb_X7_spread, [])
set_option maxRecDepth 100000 in
theorem ck_X7_spread_1 : en_all x_X7_spread_1 m_X7_spread_1 u_X7_spread_1 32 = true := by decide +kernel
theorem ct_X7_spread_1 {l : Launch} (hl : l.stackTraces = false) {cx cy : Int32} : en_Ctr l vwCl en_TY0 (en_Pc cx cy) en_om0 (en_Of cx cy) en_KT yX7_spread (Cond.code yX7_spread cX7_spread 7 (some .int) :: en_cw) (en_rm 1 (0, 0)) 0 k_X7_spread_1 :=
  en_main (X := x_X7_spread_1) (M := m_X7_spread_1) en_Pc_ok en_f32_ok en_f64_ok hl (by decide +kernel) ⟨en_FTX7_ok, en_PTX7_ok, en_ac (⟨yX7_kind, RX7, cX7_kind, 3, (some .char), by decide, ct_X7_kind_0 hl, fun _ => ⟨gc_RX7_175v, by decide, _, rfl, rfl⟩, fun h => Bool.noConfusion h⟩) en_an, en_LTX7_ok, en_LLX7_ok, en_TTX7_ok hl, ⟨cw256, cw147⟩, en_ACX7_ok⟩ de_X7_spread ck_X7_spread_1
def k_X7_isIn_38 : en_K := (3, ([.inl ((-2), 29, 0, 0), .inl (0, 0, 0, 0), .inl (29, 29, 0, 0)], [(5, 0, 0, 0, 0, 0)]), [([.inl ((-2), (-1), 0, 0), .inl (0, 0, 0, 0), .inl (29, 29, 0, 0), .inl (0, 0, 0, 0)], [(5, 0, 0, 0, 0, 0)]), ([.inl (0, 29, 0, 0), .inl (0, 0, 0, 0), .inl (29, 29, 0, 0), .inl (1, 1, 0, 0)], [(5, 0, 0, 0, 0, 0)])], [], [], (0, 0), [])
def u_X7_isIn_38 : List en_U := []
def x_X7_isIn_38 : en_Cx := ((en_KT, en_TY0, en_om0), en_FTX7, en_PTX7, [], en_LTX7, en_LLX7, en_TTX7, en_ACX7)
def m_X7_isIn_38 : en_Mx := (k_X7_isIn_38, 0, 3, (0, 2), tb_X7_isIn, [])
set_option maxRecDepth 100000 in
theorem ck_X7_isIn_38 : en_all x_X7_isIn_38 m_X7_isIn_38 u_X7_isIn_38 12 = true := by decide +kernel
theorem ct_X7_isIn_38 {l : Launch} (hl : l.stackTraces = false) {cx cy : Int32} : en_Ctr l vwCl en_TY0 (en_Pc cx cy) en_om0 (en_Of cx cy) en_KT yX7_isIn (Cond.code yX7_isIn cX7_isIn 3 (some .boolean) :: en_cw) (en_rm 0 (0, 0)) 0 k_X7_isIn_38 :=
  en_main (X := x_X7_isIn_38) (M := m_X7_isIn_38) en_Pc_ok en_f32_ok en_f64_ok hl (by decide +kernel) ⟨en_FTX7_ok, en_PTX7_ok, en_an, en_LTX7_ok, en_LLX7_ok, en_TTX7_ok hl, ⟨cw256, cw147⟩, en_ACX7_ok⟩ de_X7_isIn ck_X7_isIn_38
def k_X7_isIn_39 : en_K := (3, ([.inl ((-2), 19, 0, 0), .inl (0, 0, 0, 0), .inl (19, 19, 0, 0)], [(5, 0, 0, 0, 0, 0)]), [([.inl ((-2), (-1), 0, 0), .inl (0, 0, 0, 0), .inl (19, 19, 0, 0), .inl (0, 0, 0, 0)], [(5, 0, 0, 0, 0, 0)]), ([.inl (0, 19, 0, 0), .inl (0, 0, 0, 0), .inl (19, 19, 0, 0), .inl (1, 1, 0, 0)], [(5, 0, 0, 0, 0, 0)])], [], [], (0, 0), [])
def u_X7_isIn_39 : List en_U := []
def x_X7_isIn_39 : en_Cx := ((en_KT, en_TY0, en_om0), en_FTX7, en_PTX7, [], en_LTX7, en_LLX7, en_TTX7, en_ACX7)
def m_X7_isIn_39 : en_Mx := (k_X7_isIn_39, 0, 3, (0, 2), tb_X7_isIn, [])
set_option maxRecDepth 100000 in
theorem ck_X7_isIn_39 : en_all x_X7_isIn_39 m_X7_isIn_39 u_X7_isIn_39 12 = true := by decide +kernel
theorem ct_X7_isIn_39 {l : Launch} (hl : l.stackTraces = false) {cx cy : Int32} : en_Ctr l vwCl en_TY0 (en_Pc cx cy) en_om0 (en_Of cx cy) en_KT yX7_isIn (Cond.code yX7_isIn cX7_isIn 3 (some .boolean) :: en_cw) (en_rm 0 (0, 0)) 0 k_X7_isIn_39 :=
  en_main (X := x_X7_isIn_39) (M := m_X7_isIn_39) en_Pc_ok en_f32_ok en_f64_ok hl (by decide +kernel) ⟨en_FTX7_ok, en_PTX7_ok, en_an, en_LTX7_ok, en_LLX7_ok, en_TTX7_ok hl, ⟨cw256, cw147⟩, en_ACX7_ok⟩ de_X7_isIn ck_X7_isIn_39
def k_X7_isCell_3 : en_K := (2, ([.inl ((-2), 29, 0, 0), .inl ((-2), 19, 0, 0)], [(5, 0, 0, 0, 0, 0)]), [([.inl ((-2), 29, 0, 0), .inl ((-2), 19, 0, 0), .inl (0, 0, 0, 0)], [(5, 0, 0, 0, 0, 0)]), ([.inl (0, 29, 0, 0), .inl (0, 19, 0, 0), .inl (1, 1, 0, 0)], [(5, 0, 0, 0, 0, 0)])], [], [], (0, 0), [])
def u_X7_isCell_3 : List en_U := []
def x_X7_isCell_3 : en_Cx := ((en_KT, en_TY0, en_om0), en_FTX7, en_PTX7, [(82, false, 0, 0, 0, k_X7_isIn_39), (82, false, 0, 0, 0, k_X7_isIn_38)], en_LTX7, en_LLX7, en_TTX7, en_ACX7)
def m_X7_isCell_3 : en_Mx := (k_X7_isCell_3, 1, 2, (0, 2), tb_X7_isCell, [])
set_option maxRecDepth 100000 in
theorem ck_X7_isCell_3 : en_all x_X7_isCell_3 m_X7_isCell_3 u_X7_isCell_3 16 = true := by decide +kernel
theorem ct_X7_isCell_3 {l : Launch} (hl : l.stackTraces = false) {cx cy : Int32} : en_Ctr l vwCl en_TY0 (en_Pc cx cy) en_om0 (en_Of cx cy) en_KT yX7_isCell (Cond.code yX7_isCell cX7_isCell 2 (some .boolean) :: en_cw) (en_rm 1 (0, 0)) 0 k_X7_isCell_3 :=
  en_main (X := x_X7_isCell_3) (M := m_X7_isCell_3) en_Pc_ok en_f32_ok en_f64_ok hl (by decide +kernel) ⟨en_FTX7_ok, en_PTX7_ok, en_ac (⟨yX7_isIn, RX7, cX7_isIn, 3, (some .boolean), by decide, ct_X7_isIn_39 hl, fun h => Bool.noConfusion h, fun _ => gc_RX7_82s⟩) (en_ac (⟨yX7_isIn, RX7, cX7_isIn, 3, (some .boolean), by decide, ct_X7_isIn_38 hl, fun h => Bool.noConfusion h, fun _ => gc_RX7_82s⟩) en_an), en_LTX7_ok, en_LLX7_ok, en_TTX7_ok hl, ⟨cw256, cw147⟩, en_ACX7_ok⟩ de_X7_isCell ck_X7_isCell_3
def k_X7_isIn_40 : en_K := (3, ([.inl ((-2), 20, 0, 0), .inl (0, 0, 0, 0), .inl (19, 19, 0, 0)], [(5, 0, 0, 0, 0, 0)]), [([.inl ((-2), 20, 0, 0), .inl (0, 0, 0, 0), .inl (19, 19, 0, 0), .inl (0, 0, 0, 0)], [(5, 0, 0, 0, 0, 0)]), ([.inl (0, 19, 0, 0), .inl (0, 0, 0, 0), .inl (19, 19, 0, 0), .inl (1, 1, 0, 0)], [(5, 0, 0, 0, 0, 0)])], [], [], (0, 0), [])
def u_X7_isIn_40 : List en_U := []
def x_X7_isIn_40 : en_Cx := ((en_KT, en_TY0, en_om0), en_FTX7, en_PTX7, [], en_LTX7, en_LLX7, en_TTX7, en_ACX7)
def m_X7_isIn_40 : en_Mx := (k_X7_isIn_40, 0, 3, (0, 2), tb_X7_isIn, [])
set_option maxRecDepth 100000 in
theorem ck_X7_isIn_40 : en_all x_X7_isIn_40 m_X7_isIn_40 u_X7_isIn_40 12 = true := by decide +kernel
theorem ct_X7_isIn_40 {l : Launch} (hl : l.stackTraces = false) {cx cy : Int32} : en_Ctr l vwCl en_TY0 (en_Pc cx cy) en_om0 (en_Of cx cy) en_KT yX7_isIn (Cond.code yX7_isIn cX7_isIn 3 (some .boolean) :: en_cw) (en_rm 0 (0, 0)) 0 k_X7_isIn_40 :=
  en_main (X := x_X7_isIn_40) (M := m_X7_isIn_40) en_Pc_ok en_f32_ok en_f64_ok hl (by decide +kernel) ⟨en_FTX7_ok, en_PTX7_ok, en_an, en_LTX7_ok, en_LLX7_ok, en_TTX7_ok hl, ⟨cw256, cw147⟩, en_ACX7_ok⟩ de_X7_isIn ck_X7_isIn_40
def k_X7_isCell_4 : en_K := (2, ([.inl ((-2), 29, 0, 0), .inl ((-2), 20, 0, 0)], [(5, 0, 0, 0, 0, 0)]), [([.inl ((-2), 29, 0, 0), .inl ((-2), 20, 0, 0), .inl (0, 0, 0, 0)], [(5, 0, 0, 0, 0, 0)]), ([.inl (0, 29, 0, 0), .inl (0, 19, 0, 0), .inl (1, 1, 0, 0)], [(5, 0, 0, 0, 0, 0)])], [], [], (0, 0), [])
def u_X7_isCell_4 : List en_U := []
def x_X7_isCell_4 : en_Cx := ((en_KT, en_TY0, en_om0), en_FTX7, en_PTX7, [(82, false, 0, 0, 0, k_X7_isIn_40), (82, false, 0, 0, 0, k_X7_isIn_38)], en_LTX7, en_LLX7, en_TTX7, en_ACX7)
def m_X7_isCell_4 : en_Mx := (k_X7_isCell_4, 1, 2, (0, 2), tb_X7_isCell, [])
set_option maxRecDepth 100000 in
theorem ck_X7_isCell_4 : en_all x_X7_isCell_4 m_X7_isCell_4 u_X7_isCell_4 16 = true := by decide +kernel
theorem ct_X7_isCell_4 {l : Launch} (hl : l.stackTraces = false) {cx cy : Int32} : en_Ctr l vwCl en_TY0 (en_Pc cx cy) en_om0 (en_Of cx cy) en_KT yX7_isCell (Cond.code yX7_isCell cX7_isCell 2 (some .boolean) :: en_cw) (en_rm 1 (0, 0)) 0 k_X7_isCell_4 :=
  en_main (X := x_X7_isCell_4) (M := m_X7_isCell_4) en_Pc_ok en_f32_ok en_f64_ok hl (by decide +kernel) ⟨en_FTX7_ok, en_PTX7_ok, en_ac (⟨yX7_isIn, RX7, cX7_isIn, 3, (some .boolean), by decide, ct_X7_isIn_40 hl, fun h => Bool.noConfusion h, fun _ => gc_RX7_82s⟩) (en_ac (⟨yX7_isIn, RX7, cX7_isIn, 3, (some .boolean), by decide, ct_X7_isIn_38 hl, fun h => Bool.noConfusion h, fun _ => gc_RX7_82s⟩) en_an), en_LTX7_ok, en_LLX7_ok, en_TTX7_ok hl, ⟨cw256, cw147⟩, en_ACX7_ok⟩ de_X7_isCell ck_X7_isCell_4
def k_X7_isIn_41 : en_K := (3, ([.inl ((-2), 21, 0, 0), .inl (0, 0, 0, 0), .inl (19, 19, 0, 0)], [(5, 0, 0, 0, 0, 0)]), [([.inl ((-2), 21, 0, 0), .inl (0, 0, 0, 0), .inl (19, 19, 0, 0), .inl (0, 0, 0, 0)], [(5, 0, 0, 0, 0, 0)]), ([.inl (0, 19, 0, 0), .inl (0, 0, 0, 0), .inl (19, 19, 0, 0), .inl (1, 1, 0, 0)], [(5, 0, 0, 0, 0, 0)])], [], [], (0, 0), [])
def u_X7_isIn_41 : List en_U := []
def x_X7_isIn_41 : en_Cx := ((en_KT, en_TY0, en_om0), en_FTX7, en_PTX7, [], en_LTX7, en_LLX7, en_TTX7, en_ACX7)
def m_X7_isIn_41 : en_Mx := (k_X7_isIn_41, 0, 3, (0, 2), tb_X7_isIn, [])
set_option maxRecDepth 100000 in
theorem ck_X7_isIn_41 : en_all x_X7_isIn_41 m_X7_isIn_41 u_X7_isIn_41 12 = true := by decide +kernel
theorem ct_X7_isIn_41 {l : Launch} (hl : l.stackTraces = false) {cx cy : Int32} : en_Ctr l vwCl en_TY0 (en_Pc cx cy) en_om0 (en_Of cx cy) en_KT yX7_isIn (Cond.code yX7_isIn cX7_isIn 3 (some .boolean) :: en_cw) (en_rm 0 (0, 0)) 0 k_X7_isIn_41 :=
  en_main (X := x_X7_isIn_41) (M := m_X7_isIn_41) en_Pc_ok en_f32_ok en_f64_ok hl (by decide +kernel) ⟨en_FTX7_ok, en_PTX7_ok, en_an, en_LTX7_ok, en_LLX7_ok, en_TTX7_ok hl, ⟨cw256, cw147⟩, en_ACX7_ok⟩ de_X7_isIn ck_X7_isIn_41
def k_X7_isCell_5 : en_K := (2, ([.inl ((-2), 29, 0, 0), .inl ((-2), 21, 0, 0)], [(5, 0, 0, 0, 0, 0)]), [([.inl ((-2), 29, 0, 0), .inl ((-2), 21, 0, 0), .inl (0, 0, 0, 0)], [(5, 0, 0, 0, 0, 0)]), ([.inl (0, 29, 0, 0), .inl (0, 19, 0, 0), .inl (1, 1, 0, 0)], [(5, 0, 0, 0, 0, 0)])], [], [], (0, 0), [])
def u_X7_isCell_5 : List en_U := []
def x_X7_isCell_5 : en_Cx := ((en_KT, en_TY0, en_om0), en_FTX7, en_PTX7, [(82, false, 0, 0, 0, k_X7_isIn_41), (82, false, 0, 0, 0, k_X7_isIn_38)], en_LTX7, en_LLX7, en_TTX7, en_ACX7)
def m_X7_isCell_5 : en_Mx := (k_X7_isCell_5, 1, 2, (0, 2), tb_X7_isCell, [])
set_option maxRecDepth 100000 in
theorem ck_X7_isCell_5 : en_all x_X7_isCell_5 m_X7_isCell_5 u_X7_isCell_5 16 = true := by decide +kernel
theorem ct_X7_isCell_5 {l : Launch} (hl : l.stackTraces = false) {cx cy : Int32} : en_Ctr l vwCl en_TY0 (en_Pc cx cy) en_om0 (en_Of cx cy) en_KT yX7_isCell (Cond.code yX7_isCell cX7_isCell 2 (some .boolean) :: en_cw) (en_rm 1 (0, 0)) 0 k_X7_isCell_5 :=
  en_main (X := x_X7_isCell_5) (M := m_X7_isCell_5) en_Pc_ok en_f32_ok en_f64_ok hl (by decide +kernel) ⟨en_FTX7_ok, en_PTX7_ok, en_ac (⟨yX7_isIn, RX7, cX7_isIn, 3, (some .boolean), by decide, ct_X7_isIn_41 hl, fun h => Bool.noConfusion h, fun _ => gc_RX7_82s⟩) (en_ac (⟨yX7_isIn, RX7, cX7_isIn, 3, (some .boolean), by decide, ct_X7_isIn_38 hl, fun h => Bool.noConfusion h, fun _ => gc_RX7_82s⟩) en_an), en_LTX7_ok, en_LLX7_ok, en_TTX7_ok hl, ⟨cw256, cw147⟩, en_ACX7_ok⟩ de_X7_isCell ck_X7_isCell_5
def k_X7_isIn_42 : en_K := (3, ([.inl ((-2), 30, 0, 0), .inl (0, 0, 0, 0), .inl (29, 29, 0, 0)], [(5, 0, 0, 0, 0, 0)]), [([.inl ((-2), 30, 0, 0), .inl (0, 0, 0, 0), .inl (29, 29, 0, 0), .inl (0, 0, 0, 0)], [(5, 0, 0, 0, 0, 0)]), ([.inl (0, 29, 0, 0), .inl (0, 0, 0, 0), .inl (29, 29, 0, 0), .inl (1, 1, 0, 0)], [(5, 0, 0, 0, 0, 0)])], [], [], (0, 0), [])
def u_X7_isIn_42 : List en_U := []
def x_X7_isIn_42 : en_Cx := ((en_KT, en_TY0, en_om0), en_FTX7, en_PTX7, [], en_LTX7, en_LLX7, en_TTX7, en_ACX7)
def m_X7_isIn_42 : en_Mx := (k_X7_isIn_42, 0, 3, (0, 2), tb_X7_isIn, [])
set_option maxRecDepth 100000 in
theorem ck_X7_isIn_42 : en_all x_X7_isIn_42 m_X7_isIn_42 u_X7_isIn_42 12 = true := by decide +kernel
theorem ct_X7_isIn_42 {l : Launch} (hl : l.stackTraces = false) {cx cy : Int32} : en_Ctr l vwCl en_TY0 (en_Pc cx cy) en_om0 (en_Of cx cy) en_KT yX7_isIn (Cond.code yX7_isIn cX7_isIn 3 (some .boolean) :: en_cw) (en_rm 0 (0, 0)) 0 k_X7_isIn_42 :=
  en_main (X := x_X7_isIn_42) (M := m_X7_isIn_42) en_Pc_ok en_f32_ok en_f64_ok hl (by decide +kernel) ⟨en_FTX7_ok, en_PTX7_ok, en_an, en_LTX7_ok, en_LLX7_ok, en_TTX7_ok hl, ⟨cw256, cw147⟩, en_ACX7_ok⟩ de_X7_isIn ck_X7_isIn_42
def k_X7_isCell_6 : en_K := (2, ([.inl ((-2), 30, 0, 0), .inl ((-2), 21, 0, 0)], [(5, 0, 0, 0, 0, 0)]), [([.inl ((-2), 30, 0, 0), .inl ((-2), 21, 0, 0), .inl (0, 0, 0, 0)], [(5, 0, 0, 0, 0, 0)]), ([.inl (0, 29, 0, 0), .inl (0, 19, 0, 0), .inl (1, 1, 0, 0)], [(5, 0, 0, 0, 0, 0)])], [], [], (0, 0), [])
def u_X7_isCell_6 : List en_U := []
def x_X7_isCell_6 : en_Cx := ((en_KT, en_TY0, en_om0), en_FTX7, en_PTX7, [(82, false, 0, 0, 0, k_X7_isIn_41), (82, false, 0, 0, 0, k_X7_isIn_42)], en_LTX7, en_LLX7, en_TTX7, en_ACX7)
def m_X7_isCell_6 : en_Mx := (k_X7_isCell_6, 1, 2, (0, 2), tb_X7_isCell, [])
set_option maxRecDepth 100000 in
theorem ck_X7_isCell_6 : en_all x_X7_isCell_6 m_X7_isCell_6 u_X7_isCell_6 16 = true := by decide +kernel
theorem ct_X7_isCell_6 {l : Launch} (hl : l.stackTraces = false) {cx cy : Int32} : en_Ctr l vwCl en_TY0 (en_Pc cx cy) en_om0 (en_Of cx cy) en_KT yX7_isCell (Cond.code yX7_isCell cX7_isCell 2 (some .boolean) :: en_cw) (en_rm 1 (0, 0)) 0 k_X7_isCell_6 :=
  en_main (X := x_X7_isCell_6) (M := m_X7_isCell_6) en_Pc_ok en_f32_ok en_f64_ok hl (by decide +kernel) ⟨en_FTX7_ok, en_PTX7_ok, en_ac (⟨yX7_isIn, RX7, cX7_isIn, 3, (some .boolean), by decide, ct_X7_isIn_41 hl, fun h => Bool.noConfusion h, fun _ => gc_RX7_82s⟩) (en_ac (⟨yX7_isIn, RX7, cX7_isIn, 3, (some .boolean), by decide, ct_X7_isIn_42 hl, fun h => Bool.noConfusion h, fun _ => gc_RX7_82s⟩) en_an), en_LTX7_ok, en_LLX7_ok, en_TTX7_ok hl, ⟨cw256, cw147⟩, en_ACX7_ok⟩ de_X7_isCell ck_X7_isCell_6
def k_X7_isIn_43 : en_K := (3, ([.inl ((-2), 31, 0, 0), .inl (0, 0, 0, 0), .inl (29, 29, 0, 0)], [(5, 0, 0, 0, 0, 0)]), [([.inl ((-2), 31, 0, 0), .inl (0, 0, 0, 0), .inl (29, 29, 0, 0), .inl (0, 0, 0, 0)], [(5, 0, 0, 0, 0, 0)]), ([.inl (0, 29, 0, 0), .inl (0, 0, 0, 0), .inl (29, 29, 0, 0), .inl (1, 1, 0, 0)], [(5, 0, 0, 0, 0, 0)])], [], [], (0, 0), [])
def u_X7_isIn_43 : List en_U := []
def x_X7_isIn_43 : en_Cx := ((en_KT, en_TY0, en_om0), en_FTX7, en_PTX7, [], en_LTX7, en_LLX7, en_TTX7, en_ACX7)
def m_X7_isIn_43 : en_Mx := (k_X7_isIn_43, 0, 3, (0, 2), tb_X7_isIn, [])
set_option maxRecDepth 100000 in
theorem ck_X7_isIn_43 : en_all x_X7_isIn_43 m_X7_isIn_43 u_X7_isIn_43 12 = true := by decide +kernel
theorem ct_X7_isIn_43 {l : Launch} (hl : l.stackTraces = false) {cx cy : Int32} : en_Ctr l vwCl en_TY0 (en_Pc cx cy) en_om0 (en_Of cx cy) en_KT yX7_isIn (Cond.code yX7_isIn cX7_isIn 3 (some .boolean) :: en_cw) (en_rm 0 (0, 0)) 0 k_X7_isIn_43 :=
  en_main (X := x_X7_isIn_43) (M := m_X7_isIn_43) en_Pc_ok en_f32_ok en_f64_ok hl (by decide +kernel) ⟨en_FTX7_ok, en_PTX7_ok, en_an, en_LTX7_ok, en_LLX7_ok, en_TTX7_ok hl, ⟨cw256, cw147⟩, en_ACX7_ok⟩ de_X7_isIn ck_X7_isIn_43
