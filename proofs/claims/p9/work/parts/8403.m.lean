def k_X7_isCell_2 : en_K := (2, ([.inl (0, 29, 0, 0), .inl (0, 19, 0, 0)], [(5, 0, 0, 0, 0, 0)]), [([.inl (0, 29, 0, 0), .inl (0, 19, 0, 0), .inl (1, 1, 0, 0)], [(5, 0, 0, 0, 0, 0)])], [], [], (0, 0), [])
def u_X7_isCell_2 : List en_U := []
def x_X7_isCell_2 : en_Cx := ((en_KT0, en_TY0, en_om0), en_FTX7, en_PTX7, [(82, false, 0, 0, 0, k_X7_isIn_8), (82, false, 0, 0, 0, k_X7_isIn_9)], en_LTX7, en_LLX7, en_TTX7)
def m_X7_isCell_2 : en_Mx := (k_X7_isCell_2, 1, 2, (0, 2), tb_X7_isCell, [])
set_option maxRecDepth 100000 in
theorem ck_X7_isCell_2 : en_all x_X7_isCell_2 m_X7_isCell_2 u_X7_isCell_2 16 = true := by decide +kernel
theorem ct_X7_isCell_2 {l : Launch} (hl : l.stackTraces = false) {cx cy : Int32} : en_Ctr l vwCl en_TY0 (en_Pc cx cy) en_om0 (en_Oc cx cy) en_KT0 yX7_isCell (Cond.code yX7_isCell cX7_isCell 2 (some .boolean) :: en_cw) (en_rm 1 (0, 0)) 0 k_X7_isCell_2 :=
  en_main (X := x_X7_isCell_2) (M := m_X7_isCell_2) en_Pc_ok en_f32_ok en_f64_ok hl (by decide +kernel) ⟨en_FTX7_ok, en_PTX7_ok, en_ac (⟨yX7_isIn, RX7, cX7_isIn, 3, (some .boolean), by decide, ct_X7_isIn_8 hl, fun h => Bool.noConfusion h, fun _ => gc_RX7_82s⟩) (en_ac (⟨yX7_isIn, RX7, cX7_isIn, 3, (some .boolean), by decide, ct_X7_isIn_9 hl, fun h => Bool.noConfusion h, fun _ => gc_RX7_82s⟩) en_an), en_LTX7_ok, en_LLX7_ok, en_TTX7_ok hl, cw256, cw147⟩ de_X7_isCell ck_X7_isCell_2
def tb_X7_isAllowed : en_Tb := [
  (28, [(0, .iload_n 1, 1), (1, .iload_n 2, 1), (2, .invokestatic 106, 3), (5, .ifCond .eq 49, 3), (8, .aload_n 0, 1), (9, .iload_n 1, 1), (10, .iload_n 2, 1), (11, .invokevirtual 175, 3), (14, .bipush 121, 2), (16, .if_icmp .eq 38, 3), (19, .aload_n 0, 1), (20, .iload_n 1, 1), (21, .iload_n 2, 1), (22, .invokevirtual 175, 3), (25, .bipush 114, 2), (27, .if_icmp .eq 27, 3)]), 
  (56, [(30, .aload_n 0, 1), (31, .iload_n 1, 1), (32, .iload_n 2, 1), (33, .invokevirtual 175, 3), (36, .bipush 111, 2), (38, .if_icmp .eq 16, 3), (41, .aload_n 0, 1), (42, .iload_n 1, 1), (43, .iload_n 2, 1), (44, .invokevirtual 187, 3), (47, .ifCond .ne 7, 3), (50, .iconst 1, 1), (51, .goto 4, 3), (54, .iconst 0, 1), (55, .ireturn, 1)])]
set_option maxRecDepth 40000 in
theorem de_X7_isAllowed : en_De tb_X7_isAllowed cX7_isAllowed := by
  unfold en_De
  decide +kernel
def k_X7_isAllowed_0 : en_K := (3, ([.inr (.inl 20), .inl (0, 29, 0, 0), .inl (0, 19, 0, 0), .inl (0, 8, 0, 0)], [(0, 0, 25, 3, 0, 0), (5, 0, 0, 0, 0, 0)]), [([.inr (.inl 20), .inl (0, 29, 0, 0), .inl (0, 19, 0, 0), .inl (0, 0, 0, 0)], [(5, 0, 0, 0, 0, 0)]), ([.inr (.inl 20), .inl (0, 29, 0, 0), .inl (0, 19, 0, 0), .inl (1, 1, 0, 0)], [(2, 1, 2, 0, 0, 0), (5, 0, 0, 0, 0, 0)])], [], [20, 21, 22, 23, 24], (0, 0), [])
def u_X7_isAllowed_0 : List en_U := []
def x_X7_isAllowed_0 : en_Cx := ((en_KT0, en_TY0, en_om0), en_FTX7, en_PTX7, [(106, false, 0, 0, 1, k_X7_isCell_2), (175, true, 13, 0, 0, k_X7_kind_0), (187, true, 13, 0, 2, k_X7_isCup_h0)], en_LTX7, en_LLX7, en_TTX7)
def m_X7_isAllowed_0 : en_Mx := (k_X7_isAllowed_0, 3, 3, (0, 2), tb_X7_isAllowed, [])
set_option maxRecDepth 100000 in
theorem ck_X7_isAllowed_0 : en_all x_X7_isAllowed_0 m_X7_isAllowed_0 u_X7_isAllowed_0 33 = true := by decide +kernel
theorem ct_X7_isAllowed_0 {l : Launch} (hl : l.stackTraces = false) {cx cy : Int32} : en_Ctr l vwCl en_TY0 (en_Pc cx cy) en_om0 (en_Oc cx cy) en_KT0 yX7_isAllowed (Cond.code yX7_isAllowed cX7_isAllowed 3 (some .boolean) :: en_cw) (en_rm 3 (0, 0)) 0 k_X7_isAllowed_0 :=
  en_main (X := x_X7_isAllowed_0) (M := m_X7_isAllowed_0) en_Pc_ok en_f32_ok en_f64_ok hl (by decide +kernel) ⟨en_FTX7_ok, en_PTX7_ok, en_ac (⟨yX7_isCell, RX7, cX7_isCell, 2, (some .boolean), by decide, ct_X7_isCell_2 hl, fun h => Bool.noConfusion h, fun _ => gc_RX7_106s⟩) (en_ac (⟨yX7_kind, RX7, cX7_kind, 3, (some .char), by decide, ct_X7_kind_0 hl, fun _ => ⟨gc_RX7_175v, by decide, _, rfl, rfl⟩, fun h => Bool.noConfusion h⟩) (en_ac (⟨yX7_isCup, RX7, cX7_isCup, 3, (some .boolean), by decide, ct_X7_isCup_h0 hl, fun _ => ⟨gc_RX7_187v, by decide, _, rfl, rfl⟩, fun h => Bool.noConfusion h⟩) en_an)), en_LTX7_ok, en_LLX7_ok, en_TTX7_ok hl, cw256, cw147⟩ de_X7_isAllowed ck_X7_isAllowed_0
def tb_X7_put : en_Tb := [
  (19, [(0, .aload_n 0, 1), (1, .iconst (-1), 1), (2, .putfield 160, 3), (5, .aload_n 1, 1), (6, .iconst 1, 1), (7, .iload_n 2, 1), (8, .iastore, 1), (9, .aload_n 1, 1), (10, .iconst 2, 1), (11, .iload_n 3, 1), (12, .iastore, 1), (13, .aload_n 1, 1), (14, .bipush 8, 2), (16, .dup2, 1), (17, .iaload, 1), (18, .iload 4, 2)]), 
  (27, [(20, .iadd, 1), (21, .iastore, 1), (22, .aload_n 1, 1), (23, .invokestatic 207, 3), (26, .ireturn, 1)])]
set_option maxRecDepth 40000 in
theorem de_X7_put : en_De tb_X7_put cX7_put := by
  unfold en_De
  decide +kernel
def k_X7_put_0 : en_K := (5, ([.inr (.inl 20), .inr (.inl 27), .inl (0, 29, 0, 0), .inl (0, 19, 0, 0), .inl (1, 1, 0, 0), .inl (108, 108, 0, 0), .inl (0, 29, 0, 0), .inl (0, 19, 0, 0), .inl (0, 0, 0, 0), .inl (0, 29, 0, 0), .inl (0, 19, 0, 0), .inl (0, 0, 0, 0)], [(1, 1, 0, 5, 0, 0), (1, 1, 1, 6, 0, 0), (1, 1, 2, 7, 0, 0), (1, 1, 3, 8, 0, 0), (1, 1, 4, 9, 0, 0), (1, 1, 5, 10, 0, 0), (1, 1, 13, 11, 0, 0), (2, 2, 3, 0, 0, 0), (2, 6, 7, 0, 0, 0), (2, 9, 10, 0, 0, 0), (5, 0, 0, 0, 0, 0)]), [([.inr (.inl 20), .inr (.inl 27), .inl (0, 29, 0, 0), .inl (0, 19, 0, 0), .inl (1, 1, 0, 0), .inl ((-2147483648), 2147483647, 0, 0), .inl (0, 65535, 0, 0), .inl ((-2147483648), 2147483647, 0, 0), .inl (0, 65535, 0, 0), .inl ((-2147483648), 2147483647, 0, 0), .inl ((-2147483648), 2147483647, 0, 0), .inl (0, 1, 0, 0), .inl (0, 29, 0, 0), .inl (0, 19, 0, 0), .inl (0, 1, 0, 0), .inl (0, 29, 0, 0), .inl (0, 19, 0, 0), .inl (0, 29, 0, 0), .inl ((-2147483648), 2147483647, 0, 0), .inl (0, 19, 0, 0), .inl (0, 0, 0, 0), .inl (0, 29, 0, 0), .inl (0, 19, 0, 0), .inl (0, 1, 0, 0)], [(1, 1, 0, 6, 0, 0), (1, 1, 1, 7, 0, 0), (1, 1, 10, 8, 0, 0), (1, 1, 11, 9, 0, 0), (1, 1, 12, 10, 0, 0), (1, 1, 13, 11, 0, 0), (1, 1, 14, 12, 0, 0), (1, 1, 15, 13, 0, 0), (1, 1, 16, 14, 0, 0), (1, 1, 17, 15, 0, 0), (1, 1, 18, 16, 0, 0), (1, 1, 19, 17, 0, 0), (1, 1, 2, 18, 0, 0), (1, 1, 20, 19, 0, 0), (1, 1, 3, 20, 0, 0), (1, 1, 4, 21, 0, 0), (1, 1, 5, 22, 0, 0), (1, 1, 9, 23, 0, 0), (2, 2, 3, 0, 0, 0), (3, 6, 7, 18, 108, 110), (3, 6, 21, 22, 108, 108), (3, 6, 21, 22, 115, 115), (3, 8, 9, 10, 108, 110), (3, 11, 12, 13, 1, 1), (3, 14, 15, 16, 1, 1), (3, 14, 17, 19, 1, 1), (3, 23, 21, 22, 1, 1), (5, 0, 0, 0, 0, 0)])], [(20, 28), (27, 0)], [20, 27], (0, 0), [])
def u_X7_put_0 : List en_U := []
def x_X7_put_0 : en_Cx := ((en_KT0, en_TY0, en_om0), en_FTX7, en_PTX7, [(207, false, 0, 0, 0, k_X7_scoreOf_0)], en_LTX7, en_LLX7, en_TTX7)
def m_X7_put_0 : en_Mx := (k_X7_put_0, 1, 5, (0, 0), tb_X7_put, [])
set_option maxRecDepth 100000 in
theorem ck_X7_put_0 : en_all x_X7_put_0 m_X7_put_0 u_X7_put_0 24 = true := by decide +kernel
theorem ct_X7_put_0 {l : Launch} (hl : l.stackTraces = false) {cx cy : Int32} : en_Ctr l vwCl en_TY0 (en_Pc cx cy) en_om0 (en_Oc cx cy) en_KT0 yX7_put (Cond.code yX7_put cX7_put 5 (some .int) :: en_cw) (en_rm 1 (0, 0)) 0 k_X7_put_0 :=
  en_main (X := x_X7_put_0) (M := m_X7_put_0) en_Pc_ok en_f32_ok en_f64_ok hl (by decide +kernel) ⟨en_FTX7_ok, en_PTX7_ok, en_ac (⟨yX7_scoreOf, RX7, cX7_scoreOf, 1, (some .int), by decide, ct_X7_scoreOf_0 hl, fun h => Bool.noConfusion h, fun _ => gc_RX7_207s⟩) en_an, en_LTX7_ok, en_LLX7_ok, en_TTX7_ok hl, cw256, cw147⟩ de_X7_put ck_X7_put_0
def k_X7_aside_1 : en_K := (4, ([.inr (.inl 20), .inl ((-2147483648), 2147483647, 0, 0), .inl ((-2147483648), 2147483647, 0, 0), .inl ((-2147483648), 2147483647, 0, 0), .inl (1, 1, 0, 0), .inl (0, 8, 0, 0)], [(0, 0, 22, 4, 0, 0), (0, 0, 25, 5, 0, 0), (5, 0, 0, 0, 0, 0)]), [([.inr (.inl 20), .inl ((-2147483648), 2147483647, 0, 0), .inl ((-2147483648), 2147483647, 0, 0), .inl ((-2147483648), 2147483647, 0, 0), .inl ((-2147483648), 2147483647, 0, 0)], [(5, 0, 0, 0, 0, 0)])], [(20, 28), (20, 30), (27, 0)], [20, 21, 22, 23, 24, 26, 27], (0, 0), [])
def u_X7_aside_1 : List en_U := []
def x_X7_aside_1 : en_Cx := ((en_KT0, en_TY0, en_om0), en_FTX7, en_PTX7, [(102, false, 0, 0, 0, k_X7_far_0), (106, false, 0, 0, 1, k_X7_isCell_1), (110, true, 13, 0, 0, k_X7_isThrown_3), (110, true, 13, 0, 0, k_X7_isThrown_4), (110, true, 13, 0, 0, k_X7_isThrown_5), (110, true, 13, 0, 0, k_X7_isThrown_6), (110, true, 13, 0, 0, k_X7_isThrown_7), (132, true, 13, 0, 1, k_X7_isNoPlayer_1), (166, true, 13, 0, 1, k_X7_toCup_0), (175, true, 13, 0, 0, k_X7_kind_0), (214, true, 13, 0, 0, k_X7_isFree_0), (223, true, 13, 0, 3, k_X7_isAllowed_0), (226, true, 13, 0, 1, k_X7_put_0)], en_LTX7, en_LLX7, en_TTX7)
def m_X7_aside_1 : en_Mx := (k_X7_aside_1, 4, 6, (0, 0), tb_X7_aside, [])
set_option maxRecDepth 100000 in
theorem ck_X7_aside_1 : en_all x_X7_aside_1 m_X7_aside_1 u_X7_aside_1 97 = true := by decide +kernel
theorem ct_X7_aside_1 {l : Launch} (hl : l.stackTraces = false) {cx cy : Int32} : en_Ctr l vwCl en_TY0 (en_Pc cx cy) en_om0 (en_Oc cx cy) en_KT0 yX7_aside (Cond.code yX7_aside cX7_aside 6 (some .int) :: en_cw) (en_rm 4 (0, 0)) 0 k_X7_aside_1 :=
  en_main (X := x_X7_aside_1) (M := m_X7_aside_1) en_Pc_ok en_f32_ok en_f64_ok hl (by decide +kernel) ⟨en_FTX7_ok, en_PTX7_ok, en_ac (⟨yX7_far, RX7, cX7_far, 4, (some .int), by decide, ct_X7_far_0 hl, fun h => Bool.noConfusion h, fun _ => gc_RX7_102s⟩) (en_ac (⟨yX7_isCell, RX7, cX7_isCell, 2, (some .boolean), by decide, ct_X7_isCell_1 hl, fun h => Bool.noConfusion h, fun _ => gc_RX7_106s⟩) (en_ac (⟨yX7_isThrown, RX7, cX7_isThrown, 3, (some .boolean), by decide, ct_X7_isThrown_3 hl, fun _ => ⟨gc_RX7_110v, by decide, _, rfl, rfl⟩, fun h => Bool.noConfusion h⟩) (en_ac (⟨yX7_isThrown, RX7, cX7_isThrown, 3, (some .boolean), by decide, ct_X7_isThrown_4 hl, fun _ => ⟨gc_RX7_110v, by decide, _, rfl, rfl⟩, fun h => Bool.noConfusion h⟩) (en_ac (⟨yX7_isThrown, RX7, cX7_isThrown, 3, (some .boolean), by decide, ct_X7_isThrown_5 hl, fun _ => ⟨gc_RX7_110v, by decide, _, rfl, rfl⟩, fun h => Bool.noConfusion h⟩) (en_ac (⟨yX7_isThrown, RX7, cX7_isThrown, 3, (some .boolean), by decide, ct_X7_isThrown_6 hl, fun _ => ⟨gc_RX7_110v, by decide, _, rfl, rfl⟩, fun h => Bool.noConfusion h⟩) (en_ac (⟨yX7_isThrown, RX7, cX7_isThrown, 3, (some .boolean), by decide, ct_X7_isThrown_7 hl, fun _ => ⟨gc_RX7_110v, by decide, _, rfl, rfl⟩, fun h => Bool.noConfusion h⟩) (en_ac (⟨yX7_isNoPlayer, RX7, cX7_isNoPlayer, 2, (some .boolean), by decide, ct_X7_isNoPlayer_1 hl, fun _ => ⟨gc_RX7_132v, by decide, _, rfl, rfl⟩, fun h => Bool.noConfusion h⟩) (en_ac (⟨yX7_toCup, RX7, cX7_toCup, 3, (some .int), by decide, ct_X7_toCup_0 hl, fun _ => ⟨gc_RX7_166v, by decide, _, rfl, rfl⟩, fun h => Bool.noConfusion h⟩) (en_ac (⟨yX7_kind, RX7, cX7_kind, 3, (some .char), by decide, ct_X7_kind_0 hl, fun _ => ⟨gc_RX7_175v, by decide, _, rfl, rfl⟩, fun h => Bool.noConfusion h⟩) (en_ac (⟨yX7_isFree, RX7, cX7_isFree, 2, (some .boolean), by decide, ct_X7_isFree_0 hl, fun _ => ⟨gc_RX7_214v, by decide, _, rfl, rfl⟩, fun h => Bool.noConfusion h⟩) (en_ac (⟨yX7_isAllowed, RX7, cX7_isAllowed, 3, (some .boolean), by decide, ct_X7_isAllowed_0 hl, fun _ => ⟨gc_RX7_223v, by decide, _, rfl, rfl⟩, fun h => Bool.noConfusion h⟩) (en_ac (⟨yX7_put, RX7, cX7_put, 5, (some .int), by decide, ct_X7_put_0 hl, fun _ => ⟨gc_RX7_226v, by decide, _, rfl, rfl⟩, fun h => Bool.noConfusion h⟩) en_an)))))))))))), en_LTX7_ok, en_LLX7_ok, en_TTX7_ok hl, cw256, cw147⟩ de_X7_aside ck_X7_aside_1
def tb_X7_away : en_Tb := [
  (30, [(0, .aload_n 0, 1), (1, .aload_n 0, 1), (2, .getfield 135, 3), (5, .ifCond .ne 7, 3), (8, .iconst 1, 1), (9, .goto 4, 3), (12, .iconst 0, 1), (13, .iconst 1, 1), (14, .invokevirtual 110, 3), (17, .ifCond .ne 23, 3), (20, .aload_n 0, 1), (21, .aload_n 0, 1), (22, .invokevirtual 169, 3), (25, .ifCond .ne 7, 3), (28, .iconst 1, 1), (29, .goto 4, 3)]), 
  (49, [(32, .iconst 0, 1), (33, .iconst 2, 1), (34, .invokevirtual 110, 3), (37, .ifCond .eq 7, 3), (40, .iconst 0, 1), (41, .goto 7, 3), (44, .aload_n 0, 1), (45, .invokevirtual 172, 3), (48, .ireturn, 1)])]
set_option maxRecDepth 40000 in
theorem de_X7_away : en_De tb_X7_away cX7_away := by
  unfold en_De
  decide +kernel
def k_X7_away_0 : en_K := (1, ([.inr (.inl 20), .inl (0, 0, 0, 0)], [(0, 0, 22, 1, 0, 0)]), [([.inr (.inl 20), .inl (0, 0, 0, 0)], [])], [(20, 30)], [20], (0, 0), [])
def u_X7_away_0 : List en_U := []
def x_X7_away_0 : en_Cx := ((en_KT0, en_TY0, en_om0), en_FTX7, en_PTX7, [(110, true, 13, 0, 0, k_X7_isThrown_0)], en_LTX7, en_LLX7, en_TTX7)
def m_X7_away_0 : en_Mx := (k_X7_away_0, 1, 1, (0, 0), tb_X7_away, [])
set_option maxRecDepth 100000 in
theorem ck_X7_away_0 : en_all x_X7_away_0 m_X7_away_0 u_X7_away_0 15 = true := by decide +kernel
theorem ct_X7_away_0 {l : Launch} (hl : l.stackTraces = false) {cx cy : Int32} : en_Ctr l vwCl en_TY0 (en_Pc cx cy) en_om0 (en_Oc cx cy) en_KT0 yX7_away (Cond.code yX7_away cX7_away 1 (some .int) :: en_cw) (en_rm 1 (0, 0)) 0 k_X7_away_0 :=
  en_main (X := x_X7_away_0) (M := m_X7_away_0) en_Pc_ok en_f32_ok en_f64_ok hl (by decide +kernel) ⟨en_FTX7_ok, en_PTX7_ok, en_ac (⟨yX7_isThrown, RX7, cX7_isThrown, 3, (some .boolean), by decide, ct_X7_isThrown_0 hl, fun _ => ⟨gc_RX7_110v, by decide, _, rfl, rfl⟩, fun h => Bool.noConfusion h⟩) en_an, en_LTX7_ok, en_LLX7_ok, en_TTX7_ok hl, cw256, cw147⟩ de_X7_away ck_X7_away_0
def tb_X7_isDone : en_Tb := [
  (24, [(0, .aload_n 0, 1), (1, .getfield 23, 3), (4, .iload_n 1, 1), (5, .aaload, 1), (6, .iconst 0, 1), (7, .iaload, 1), (8, .bipush 104, 2), (10, .if_icmp .eq 16, 3), (13, .aload_n 0, 1), (14, .getfield 23, 3), (17, .iload_n 1, 1), (18, .aaload, 1), (19, .iconst 0, 1), (20, .iaload, 1), (21, .bipush 117, 2), (23, .if_icmp .ne 7, 3)]), 
  (32, [(26, .iconst 1, 1), (27, .goto 4, 3), (30, .iconst 0, 1), (31, .ireturn, 1)])]
set_option maxRecDepth 40000 in
theorem de_X7_isDone : en_De tb_X7_isDone cX7_isDone := by
  unfold en_De
  decide +kernel
def k_X7_isDone_0 : en_K := (2, ([.inr (.inl 20), .inl (0, 5, 0, 0)], [(5, 0, 0, 0, 0, 0)]), [([.inr (.inl 20), .inl (0, 5, 0, 0), .inl (0, 0, 0, 0)], [(5, 0, 0, 0, 0, 0)]), ([.inr (.inl 20), .inl (0, 5, 0, 0), .inl (1, 1, 0, 0)], [(5, 0, 0, 0, 0, 0)])], [], [20, 26, 27], (0, 0), [])
def u_X7_isDone_0 : List en_U := []
def x_X7_isDone_0 : en_Cx := ((en_KT0, en_TY0, en_om0), en_FTX7, en_PTX7, [], en_LTX7, en_LLX7, en_TTX7)
def m_X7_isDone_0 : en_Mx := (k_X7_isDone_0, 0, 2, (0, 2), tb_X7_isDone, [])
set_option maxRecDepth 100000 in
theorem ck_X7_isDone_0 : en_all x_X7_isDone_0 m_X7_isDone_0 u_X7_isDone_0 22 = true := by decide +kernel
theorem ct_X7_isDone_0 {l : Launch} (hl : l.stackTraces = false) {cx cy : Int32} : en_Ctr l vwCl en_TY0 (en_Pc cx cy) en_om0 (en_Oc cx cy) en_KT0 yX7_isDone (Cond.code yX7_isDone cX7_isDone 2 (some .boolean) :: en_cw) (en_rm 0 (0, 0)) 0 k_X7_isDone_0 :=
  en_main (X := x_X7_isDone_0) (M := m_X7_isDone_0) en_Pc_ok en_f32_ok en_f64_ok hl (by decide +kernel) ⟨en_FTX7_ok, en_PTX7_ok, en_an, en_LTX7_ok, en_LLX7_ok, en_TTX7_ok hl, cw256, cw147⟩ de_X7_isDone ck_X7_isDone_0
def tb_X7_notDone : en_Tb := [
  (26, [(0, .iconst 0, 1), (1, .istore_n 1, 1), (2, .iconst 0, 1), (3, .istore_n 2, 1), (4, .iload_n 2, 1), (5, .aload_n 0, 1), (6, .getfield 89, 3), (9, .if_icmp .ge 25, 3), (12, .iload_n 1, 1), (13, .aload_n 0, 1), (14, .iload_n 2, 1), (15, .invokevirtual 163, 3), (18, .ifCond .eq 7, 3), (21, .iconst 0, 1), (22, .goto 4, 3), (25, .iconst 1, 1)]), 
  (36, [(26, .iadd, 1), (27, .istore_n 1, 1), (28, .iinc 2 1, 3), (31, .goto (-27), 3), (34, .iload_n 1, 1), (35, .ireturn, 1)])]
set_option maxRecDepth 40000 in
theorem de_X7_notDone : en_De tb_X7_notDone cX7_notDone := by
  unfold en_De
  decide +kernel
def k_X7_notDone_0 : en_K := (1, ([.inr (.inl 20)], [(5, 0, 0, 0, 0, 0)]), [([.inr (.inl 20), .inl ((-2147483648), 2147483647, 0, 0)], [(5, 0, 0, 0, 0, 0)])], [], [20, 26, 27], (0, 0), [])
def u_X7_notDone_0 : List en_U := [
  (4, ([.inr (.inl 20), .inl (0, 6, 0, 0), .inl ((-2147483648), 2147483647, 0, 0)], [(5, 0, 0, 0, 0, 0)]), [(0, 0), (2, 1), (1, 2)], (0, 0), [((-2), 1)], 16)]
def x_X7_notDone_0 : en_Cx := ((en_KT0, en_TY0, en_om0), en_FTX7, en_PTX7, [(163, true, 13, 0, 0, k_X7_isDone_0)], en_LTX7, en_LLX7, en_TTX7)
def m_X7_notDone_0 : en_Mx := (k_X7_notDone_0, 1, 3, (0, 0), tb_X7_notDone, [])
set_option maxRecDepth 100000 in
theorem ck_X7_notDone_0 : en_all x_X7_notDone_0 m_X7_notDone_0 u_X7_notDone_0 18 = true := by decide +kernel
theorem ct_X7_notDone_0 {l : Launch} (hl : l.stackTraces = false) {cx cy : Int32} : en_Ctr l vwCl en_TY0 (en_Pc cx cy) en_om0 (en_Oc cx cy) en_KT0 yX7_notDone (Cond.code yX7_notDone cX7_notDone 3 (some .int) :: en_cw) (en_rm 1 (0, 0)) 0 k_X7_notDone_0 :=
  en_main (X := x_X7_notDone_0) (M := m_X7_notDone_0) en_Pc_ok en_f32_ok en_f64_ok hl (by decide +kernel) ⟨en_FTX7_ok, en_PTX7_ok, en_ac (⟨yX7_isDone, RX7, cX7_isDone, 2, (some .boolean), by decide, ct_X7_isDone_0 hl, fun _ => ⟨gc_RX7_163v, by decide, _, rfl, rfl⟩, fun h => Bool.noConfusion h⟩) en_an, en_LTX7_ok, en_LLX7_ok, en_TTX7_ok hl, cw256, cw147⟩ de_X7_notDone ck_X7_notDone_0
def tb_X7_whoPlays : en_Tb := [
  (24, [(0, .iconst 0, 1), (1, .istore_n 1, 1), (2, .iload_n 1, 1), (3, .aload_n 0, 1), (4, .getfield 89, 3), (7, .if_icmp .ge 34, 3), (10, .aload_n 0, 1), (11, .getfield 23, 3), (14, .aload_n 0, 1), (15, .getfield 48, 3), (18, .iload_n 1, 1), (19, .iaload, 1), (20, .aaload, 1), (21, .iconst 0, 1), (22, .iaload, 1), (23, .bipush 110, 2)]), 
  (49, [(25, .if_icmp .ne 10, 3), (28, .aload_n 0, 1), (29, .getfield 48, 3), (32, .iload_n 1, 1), (33, .iaload, 1), (34, .ireturn, 1), (35, .iinc 1 1, 3), (38, .goto (-36), 3), (41, .iconst (-1), 1), (42, .istore_n 1, 1), (43, .iconst (-1), 1), (44, .istore_n 2, 1), (45, .iconst 0, 1), (46, .istore_n 3, 1), (47, .iload_n 3, 1), (48, .aload_n 0, 1)]), 
  (77, [(49, .getfield 89, 3), (52, .if_icmp .ge 74, 3), (55, .aload_n 0, 1), (56, .getfield 23, 3), (59, .iload_n 3, 1), (60, .aaload, 1), (61, .astore 4, 2), (63, .aload 4, 2), (65, .iconst 0, 1), (66, .iaload, 1), (67, .bipush 108, 2), (69, .if_icmp .ne 18, 3), (72, .aload_n 0, 1), (73, .aload 4, 2), (75, .iconst 1, 1), (76, .iaload, 1)]), 
  (103, [(77, .aload 4, 2), (79, .iconst 2, 1), (80, .iaload, 1), (81, .invokevirtual 166, 3), (84, .goto 15, 3), (87, .aload_n 0, 1), (88, .aload 4, 2), (90, .iconst 4, 1), (91, .iaload, 1), (92, .aload 4, 2), (94, .iconst 5, 1), (95, .iaload, 1), (96, .invokevirtual 166, 3), (99, .istore 5, 2), (101, .aload_n 0, 1), (102, .iload_n 3, 1)]), 
  (128, [(103, .invokevirtual 163, 3), (106, .ifCond .ne 14, 3), (109, .iload 5, 2), (111, .iload_n 2, 1), (112, .if_icmp .le 8, 3), (115, .iload_n 3, 1), (116, .istore_n 1, 1), (117, .iload 5, 2), (119, .istore_n 2, 1), (120, .iinc 3 1, 3), (123, .goto (-76), 3), (126, .iload_n 1, 1), (127, .ireturn, 1)])]
set_option maxRecDepth 40000 in
theorem de_X7_whoPlays : en_De tb_X7_whoPlays cX7_whoPlays := by
  unfold en_De
  decide +kernel
def k_X7_whoPlays_0 : en_K := (1, ([.inr (.inl 20), .inl (0, 8, 0, 0)], [(0, 0, 25, 1, 0, 0), (5, 0, 0, 0, 0, 0)]), [([.inr (.inl 20), .inl ((-1), 5, 0, 0)], [(5, 0, 0, 0, 0, 0)])], [], [20, 21, 22, 26, 27, 38], (0, 0), [])
def u_X7_whoPlays_0 : List en_U := [
  (2, ([.inr (.inl 20), .inl (0, 6, 0, 0), .inl (0, 8, 0, 0)], [(0, 0, 25, 2, 0, 0), (5, 0, 0, 0, 0, 0)]), [(0, 0), (1, 1)], (0, 0), [((-2), 1)], 33), 
  (47, ([.inr (.inl 20), .inl (0, 6, 0, 0), .inl ((-1), 2147483647, 0, 0), .inl ((-1), 5, 0, 0), .inl (0, 8, 0, 0)], [(0, 0, 25, 4, 0, 0), (5, 0, 0, 0, 0, 0)]), [(0, 0), (3, 1), (2, 2), (1, 3)], (0, 0), [((-2), 1)], 16)]
def x_X7_whoPlays_0 : en_Cx := ((en_KT0, en_TY0, en_om0), en_FTX7, en_PTX7, [(163, true, 13, 0, 0, k_X7_isDone_0), (166, true, 13, 0, 1, k_X7_toCup_0)], en_LTX7, en_LLX7, en_TTX7)
def m_X7_whoPlays_0 : en_Mx := (k_X7_whoPlays_0, 2, 6, (0, 0), tb_X7_whoPlays, [])
set_option maxRecDepth 100000 in
theorem ck_X7_whoPlays_0 : en_all x_X7_whoPlays_0 m_X7_whoPlays_0 u_X7_whoPlays_0 40 = true := by decide +kernel
theorem ct_X7_whoPlays_0 {l : Launch} (hl : l.stackTraces = false) {cx cy : Int32} : en_Ctr l vwCl en_TY0 (en_Pc cx cy) en_om0 (en_Oc cx cy) en_KT0 yX7_whoPlays (Cond.code yX7_whoPlays cX7_whoPlays 6 (some .int) :: en_cw) (en_rm 2 (0, 0)) 0 k_X7_whoPlays_0 :=
  en_main (X := x_X7_whoPlays_0) (M := m_X7_whoPlays_0) en_Pc_ok en_f32_ok en_f64_ok hl (by decide +kernel) ⟨en_FTX7_ok, en_PTX7_ok, en_ac (⟨yX7_isDone, RX7, cX7_isDone, 2, (some .boolean), by decide, ct_X7_isDone_0 hl, fun _ => ⟨gc_RX7_163v, by decide, _, rfl, rfl⟩, fun h => Bool.noConfusion h⟩) (en_ac (⟨yX7_toCup, RX7, cX7_toCup, 3, (some .int), by decide, ct_X7_toCup_0 hl, fun _ => ⟨gc_RX7_166v, by decide, _, rfl, rfl⟩, fun h => Bool.noConfusion h⟩) en_an), en_LTX7_ok, en_LLX7_ok, en_TTX7_ok hl, cw256, cw147⟩ de_X7_whoPlays ck_X7_whoPlays_0
def k_X7_away_1 : en_K := (1, ([.inr (.inl 20), .inl (1, 1, 0, 0), .inl (0, 8, 0, 0)], [(0, 0, 22, 1, 0, 0), (0, 0, 25, 2, 0, 0), (5, 0, 0, 0, 0, 0)]), [([.inr (.inl 20), .inl ((-1), 5, 0, 0)], [(5, 0, 0, 0, 0, 0)])], [(20, 30)], [20, 21, 22, 26, 27, 38], (0, 0), [])
def u_X7_away_1 : List en_U := []
def x_X7_away_1 : en_Cx := ((en_KT0, en_TY0, en_om0), en_FTX7, en_PTX7, [(110, true, 13, 0, 0, k_X7_isThrown_11), (110, true, 13, 0, 0, k_X7_isThrown_4), (110, true, 13, 0, 0, k_X7_isThrown_5), (169, true, 13, 0, 1, k_X7_notDone_0), (172, true, 13, 0, 2, k_X7_whoPlays_0)], en_LTX7, en_LLX7, en_TTX7)
def m_X7_away_1 : en_Mx := (k_X7_away_1, 3, 1, (0, 0), tb_X7_away, [])
set_option maxRecDepth 100000 in
theorem ck_X7_away_1 : en_all x_X7_away_1 m_X7_away_1 u_X7_away_1 23 = true := by decide +kernel
theorem ct_X7_away_1 {l : Launch} (hl : l.stackTraces = false) {cx cy : Int32} : en_Ctr l vwCl en_TY0 (en_Pc cx cy) en_om0 (en_Oc cx cy) en_KT0 yX7_away (Cond.code yX7_away cX7_away 1 (some .int) :: en_cw) (en_rm 3 (0, 0)) 0 k_X7_away_1 :=
  en_main (X := x_X7_away_1) (M := m_X7_away_1) en_Pc_ok en_f32_ok en_f64_ok hl (by decide +kernel) ⟨en_FTX7_ok, en_PTX7_ok, en_ac (⟨yX7_isThrown, RX7, cX7_isThrown, 3, (some .boolean), by decide, ct_X7_isThrown_11 hl, fun _ => ⟨gc_RX7_110v, by decide, _, rfl, rfl⟩, fun h => Bool.noConfusion h⟩) (en_ac (⟨yX7_isThrown, RX7, cX7_isThrown, 3, (some .boolean), by decide, ct_X7_isThrown_4 hl, fun _ => ⟨gc_RX7_110v, by decide, _, rfl, rfl⟩, fun h => Bool.noConfusion h⟩) (en_ac (⟨yX7_isThrown, RX7, cX7_isThrown, 3, (some .boolean), by decide, ct_X7_isThrown_5 hl, fun _ => ⟨gc_RX7_110v, by decide, _, rfl, rfl⟩, fun h => Bool.noConfusion h⟩) (en_ac (⟨yX7_notDone, RX7, cX7_notDone, 3, (some .int), by decide, ct_X7_notDone_0 hl, fun _ => ⟨gc_RX7_169v, by decide, _, rfl, rfl⟩, fun h => Bool.noConfusion h⟩) (en_ac (⟨yX7_whoPlays, RX7, cX7_whoPlays, 6, (some .int), by decide, ct_X7_whoPlays_0 hl, fun _ => ⟨gc_RX7_172v, by decide, _, rfl, rfl⟩, fun h => Bool.noConfusion h⟩) en_an)))), en_LTX7_ok, en_LLX7_ok, en_TTX7_ok hl, cw256, cw147⟩ de_X7_away ck_X7_away_1
def tb_X7_begin : en_Tb := [
  (28, [(0, .aload_n 0, 1), (1, .iload_n 1, 1), (2, .bipush 115, 2), (4, .if_icmp .eq 13, 3), (7, .iload_n 1, 1), (8, .bipush 109, 2), (10, .if_icmp .eq 7, 3), (13, .iconst 1, 1), (14, .goto 4, 3), (17, .iconst 0, 1), (18, .iconst 1, 1), (19, .invokevirtual 110, 3), (22, .ifCond .ne 51, 3), (25, .aload_n 0, 1), (26, .aload_n 0, 1), (27, .getfield 86, 3)]), 
  (63, [(30, .ifCond .eq 31, 3), (33, .aload_n 0, 1), (34, .getfield 89, 3), (37, .ifCond .eq 24, 3), (40, .aload_n 0, 1), (41, .getfield 135, 3), (44, .ifCond .ne 17, 3), (47, .iload_n 1, 1), (48, .bipush 109, 2), (50, .if_icmp .ne 15, 3), (53, .aload_n 0, 1), (54, .getfield 89, 3), (57, .iconst 2, 1), (58, .if_icmp .eq 7, 3), (61, .iconst 1, 1), (62, .goto 4, 3)]), 
  (91, [(65, .iconst 0, 1), (66, .iconst 2, 1), (67, .invokevirtual 110, 3), (70, .ifCond .eq 5, 3), (73, .iconst 0, 1), (74, .ireturn, 1), (75, .aload_n 0, 1), (76, .iload_n 1, 1), (77, .putfield 142, 3), (80, .aload_n 0, 1), (81, .iconst 1, 1), (82, .putfield 114, 3), (85, .aload_n 0, 1), (86, .iconst 1, 1), (87, .putfield 135, 3), (90, .aload_n 0, 1)]), 
  (116, [(91, .iconst 0, 1), (92, .putfield 145, 3), (95, .aload_n 0, 1), (96, .iconst 0, 1), (97, .putfield 148, 3), (100, .aload_n 0, 1), (101, .iconst 0, 1), (102, .putfield 92, 3), (105, .aload_n 0, 1), (106, .iconst 0, 1), (107, .putfield 151, 3), (110, .iconst 0, 1), (111, .istore_n 2, 1), (112, .iload_n 2, 1), (113, .bipush 6, 2), (115, .if_icmp .ge 78, 3)]), 
  (140, [(118, .aload_n 0, 1), (119, .getfield 38, 3), (122, .iload_n 2, 1), (123, .iconst 0, 1), (124, .bastore, 1), (125, .aload_n 0, 1), (126, .getfield 42, 3), (129, .iload_n 2, 1), (130, .iconst 0, 1), (131, .bastore, 1), (132, .aload_n 0, 1), (133, .getfield 45, 3), (136, .iload_n 2, 1), (137, .iconst 0, 1), (138, .bastore, 1), (139, .aload_n 0, 1)]), 
  (163, [(140, .getfield 48, 3), (143, .iload_n 2, 1), (144, .iload_n 2, 1), (145, .iastore, 1), (146, .iconst 0, 1), (147, .istore_n 3, 1), (148, .iload_n 3, 1), (149, .bipush 9, 2), (151, .if_icmp .ge 36, 3), (154, .aload_n 0, 1), (155, .getfield 29, 3), (158, .iload_n 2, 1), (159, .aaload, 1), (160, .iload_n 3, 1), (161, .iconst 0, 1), (162, .iastore, 1)]), 
  (185, [(163, .aload_n 0, 1), (164, .getfield 32, 3), (167, .iload_n 2, 1), (168, .aaload, 1), (169, .iload_n 3, 1), (170, .iconst 0, 1), (171, .iastore, 1), (172, .aload_n 0, 1), (173, .getfield 35, 3), (176, .iload_n 2, 1), (177, .aaload, 1), (178, .iload_n 3, 1), (179, .iconst 0, 1), (180, .iastore, 1), (181, .iinc 3 1, 3), (184, .goto (-36), 3)]), 
  (216, [(187, .iinc 2 1, 3), (190, .goto (-78), 3), (193, .iconst 0, 1), (194, .istore_n 2, 1), (195, .iload_n 2, 1), (196, .bipush 9, 2), (198, .if_icmp .ge 16, 3), (201, .aload_n 0, 1), (202, .getfield 64, 3), (205, .iload_n 2, 1), (206, .iconst (-1), 1), (207, .iastore, 1), (208, .iinc 2 1, 3), (211, .goto (-16), 3), (214, .aload_n 0, 1), (215, .invokevirtual 154, 3)]), 
  (223, [(218, .aload_n 0, 1), (219, .getfield 86, 3), (222, .ireturn, 1)])]
set_option maxRecDepth 40000 in
theorem de_X7_begin : en_De tb_X7_begin cX7_begin := by
  unfold en_De
  decide +kernel
def k_X7_begin_0 : en_K := (2, ([.inr (.inl 20), .inl (0, 65535, 0, 0), .inl (1, 9, 0, 0), .inl (1, 1, 0, 0), .inl (0, 8, 0, 0)], [(0, 0, 16, 2, 0, 0), (0, 0, 22, 3, 0, 0), (0, 0, 25, 4, 0, 0), (5, 0, 0, 0, 0, 0)]), [([.inr (.inl 20), .inl (0, 65535, 0, 0), .inl (0, 0, 0, 0)], [(5, 0, 0, 0, 0, 0)])], [(20, 30)], [20], (0, 0), [])
def u_X7_begin_0 : List en_U := []
def x_X7_begin_0 : en_Cx := ((en_KT0, en_TY0, en_om0), en_FTX7, en_PTX7, [(110, true, 13, 0, 0, k_X7_isThrown_11), (110, true, 13, 0, 0, k_X7_isThrown_3), (110, true, 13, 0, 0, k_X7_isThrown_4)], en_LTX7, en_LLX7, en_TTX7)
def m_X7_begin_0 : en_Mx := (k_X7_begin_0, 1, 4, (0, 0), tb_X7_begin, [])
set_option maxRecDepth 100000 in
theorem ck_X7_begin_0 : en_all x_X7_begin_0 m_X7_begin_0 u_X7_begin_0 31 = true := by decide +kernel
theorem ct_X7_begin_0 {l : Launch} (hl : l.stackTraces = false) {cx cy : Int32} : en_Ctr l vwCl en_TY0 (en_Pc cx cy) en_om0 (en_Oc cx cy) en_KT0 yX7_begin (Cond.code yX7_begin cX7_begin 4 (some .int) :: en_cw) (en_rm 1 (0, 0)) 0 k_X7_begin_0 :=
  en_main (X := x_X7_begin_0) (M := m_X7_begin_0) en_Pc_ok en_f32_ok en_f64_ok hl (by decide +kernel) ⟨en_FTX7_ok, en_PTX7_ok, en_ac (⟨yX7_isThrown, RX7, cX7_isThrown, 3, (some .boolean), by decide, ct_X7_isThrown_11 hl, fun _ => ⟨gc_RX7_110v, by decide, _, rfl, rfl⟩, fun h => Bool.noConfusion h⟩) (en_ac (⟨yX7_isThrown, RX7, cX7_isThrown, 3, (some .boolean), by decide, ct_X7_isThrown_3 hl, fun _ => ⟨gc_RX7_110v, by decide, _, rfl, rfl⟩, fun h => Bool.noConfusion h⟩) (en_ac (⟨yX7_isThrown, RX7, cX7_isThrown, 3, (some .boolean), by decide, ct_X7_isThrown_4 hl, fun _ => ⟨gc_RX7_110v, by decide, _, rfl, rfl⟩, fun h => Bool.noConfusion h⟩) en_an)), en_LTX7_ok, en_LLX7_ok, en_TTX7_ok hl, cw256, cw147⟩ de_X7_begin ck_X7_begin_0
def tb_X7_cancel : en_Tb := [
  (28, [(0, .aload_n 0, 1), (1, .aload_n 0, 1), (2, .iload_n 1, 1), (3, .invokevirtual 132, 3), (6, .iconst 1, 1), (7, .invokevirtual 110, 3), (10, .ifCond .ne 53, 3), (13, .aload_n 0, 1), (14, .aload_n 0, 1), (15, .getfield 135, 3), (18, .ifCond .ne 7, 3), (21, .iconst 1, 1), (22, .goto 4, 3), (25, .iconst 0, 1), (26, .iconst 2, 1), (27, .invokevirtual 110, 3)]), 
  (61, [(30, .ifCond .ne 33, 3), (33, .aload_n 0, 1), (34, .aload_n 0, 1), (35, .getfield 142, 3), (38, .bipush 109, 2), (40, .if_icmp .ne 11, 3), (43, .aload_n 0, 1), (44, .getfield 160, 3), (47, .iload_n 1, 1), (48, .if_icmp .eq 7, 3), (51, .iconst 1, 1), (52, .goto 4, 3), (55, .iconst 0, 1), (56, .iconst 3, 1), (57, .invokevirtual 110, 3), (60, .ifCond .eq 5, 3)]), 
  (88, [(63, .iconst 0, 1), (64, .ireturn, 1), (65, .aload_n 0, 1), (66, .getfield 26, 3), (69, .iconst 0, 1), (70, .aload_n 0, 1), (71, .getfield 23, 3), (74, .iload_n 1, 1), (75, .aaload, 1), (76, .iconst 0, 1), (77, .bipush 24, 2), (79, .invokestatic 118, 3), (82, .aload_n 0, 1), (83, .iconst (-1), 1), (84, .putfield 160, 3), (87, .aload_n 0, 1)]), 
  (104, [(88, .getfield 26, 3), (91, .iconst 0, 1), (92, .iaload, 1), (93, .bipush 110, 2), (95, .if_icmp .ne 7, 3), (98, .iconst 1, 1), (99, .goto 4, 3), (102, .iconst 0, 1), (103, .ireturn, 1)])]
set_option maxRecDepth 40000 in
theorem de_X7_cancel : en_De tb_X7_cancel cX7_cancel := by
  unfold en_De
  decide +kernel
def k_X7_cancel_0 : en_K := (2, ([.inr (.inl 20), .inl ((-2147483648), 2147483647, 0, 0), .inl (0, 0, 0, 0)], [(0, 0, 22, 2, 0, 0)]), [([.inr (.inl 20), .inl ((-2147483648), 2147483647, 0, 0), .inl (0, 0, 0, 0)], [])], [(20, 30)], [20], (0, 0), [])
def u_X7_cancel_0 : List en_U := []
def x_X7_cancel_0 : en_Cx := ((en_KT0, en_TY0, en_om0), en_FTX7, en_PTX7, [(110, true, 13, 0, 0, k_X7_isThrown_0), (110, true, 13, 0, 0, k_X7_isThrown_1), (110, true, 13, 0, 0, k_X7_isThrown_2), (132, true, 13, 0, 1, k_X7_isNoPlayer_0)], en_LTX7, en_LLX7, en_TTX7)
def m_X7_cancel_0 : en_Mx := (k_X7_cancel_0, 2, 2, (0, 2), tb_X7_cancel, [])
set_option maxRecDepth 100000 in
theorem ck_X7_cancel_0 : en_all x_X7_cancel_0 m_X7_cancel_0 u_X7_cancel_0 21 = true := by decide +kernel
theorem ct_X7_cancel_0 {l : Launch} (hl : l.stackTraces = false) {cx cy : Int32} : en_Ctr l vwCl en_TY0 (en_Pc cx cy) en_om0 (en_Oc cx cy) en_KT0 yX7_cancel (Cond.code yX7_cancel cX7_cancel 2 (some .boolean) :: en_cw) (en_rm 2 (0, 0)) 0 k_X7_cancel_0 :=
  en_main (X := x_X7_cancel_0) (M := m_X7_cancel_0) en_Pc_ok en_f32_ok en_f64_ok hl (by decide +kernel) ⟨en_FTX7_ok, en_PTX7_ok, en_ac (⟨yX7_isThrown, RX7, cX7_isThrown, 3, (some .boolean), by decide, ct_X7_isThrown_0 hl, fun _ => ⟨gc_RX7_110v, by decide, _, rfl, rfl⟩, fun h => Bool.noConfusion h⟩) (en_ac (⟨yX7_isThrown, RX7, cX7_isThrown, 3, (some .boolean), by decide, ct_X7_isThrown_1 hl, fun _ => ⟨gc_RX7_110v, by decide, _, rfl, rfl⟩, fun h => Bool.noConfusion h⟩) (en_ac (⟨yX7_isThrown, RX7, cX7_isThrown, 3, (some .boolean), by decide, ct_X7_isThrown_2 hl, fun _ => ⟨gc_RX7_110v, by decide, _, rfl, rfl⟩, fun h => Bool.noConfusion h⟩) (en_ac (⟨yX7_isNoPlayer, RX7, cX7_isNoPlayer, 2, (some .boolean), by decide, ct_X7_isNoPlayer_0 hl, fun _ => ⟨gc_RX7_132v, by decide, _, rfl, rfl⟩, fun h => Bool.noConfusion h⟩) en_an))), en_LTX7_ok, en_LLX7_ok, en_TTX7_ok hl, cw256, cw147⟩ de_X7_cancel ck_X7_cancel_0
def tb_X7_checksum : en_Tb := [
  (28, [(0, .aload_n 0, 1), (1, .iconst 0, 1), (2, .putfield 79, 3), (5, .ldc2_w 331, 3), (8, .lstore_n 1, 1), (9, .iconst 0, 1), (10, .istore_n 3, 1), (11, .iload_n 3, 1), (12, .aload_n 0, 1), (13, .getfield 86, 3), (16, .if_icmp .ge 43, 3), (19, .iconst 0, 1), (20, .istore 4, 2), (22, .iload 4, 2), (24, .sipush 600, 3), (27, .if_icmp .ge 26, 3)]), 
  (57, [(30, .ldc2_w 333, 3), (33, .lload_n 1, 1), (34, .lmul, 1), (35, .aload_n 0, 1), (36, .getfield 16, 3), (39, .iload_n 3, 1), (40, .aaload, 1), (41, .iload 4, 2), (43, .caload, 1), (44, .i2l, 1), (45, .ladd, 1), (46, .lstore_n 1, 1), (47, .iinc 4 1, 3), (50, .goto (-28), 3), (53, .iinc 3 1, 3), (56, .goto (-45), 3)]), 
  (61, [(59, .lload_n 1, 1), (60, .lreturn, 1)])]
set_option maxRecDepth 40000 in
theorem de_X7_checksum : en_De tb_X7_checksum cX7_checksum := by
  unfold en_De
  decide +kernel
def k_X7_checksum_0 : en_K := (1, ([.inr (.inl 20)], []), [([.inr (.inl 20), .inr (.inr 0)], [])], [(20, 30)], [20, 23, 24], (0, 0), [])
def u_X7_checksum_0 : List en_U := [
  (11, ([.inr (.inl 20), .inl (0, 9, 0, 0), .inr (.inr 0), .inl (0, 0, 0, 0)], [(0, 0, 30, 3, 0, 0)]), [(0, 0), (3, 1), (1, 2)], (0, 0), [((-1207), 1)], 13277), 
  (22, ([.inr (.inl 20), .inl (0, 600, 0, 0), .inl (0, 8, 0, 0), .inr (.inr 0), .inl (1, 9, 0, 0), .inl (0, 0, 0, 0)], [(0, 0, 16, 4, 0, 0), (0, 0, 30, 5, 0, 0)]), [(0, 0), (4, 1), (3, 2), (1, 3)], (0, 0), [((-1207), 2), ((-2), 1)], 13275)]
def x_X7_checksum_0 : en_Cx := ((en_KT0, en_TY0, en_om0), en_FTX7, en_PTX7, [], en_LTX7, en_LLX7, en_TTX7)
def m_X7_checksum_0 : en_Mx := (k_X7_checksum_0, 0, 5, (1, 0), tb_X7_checksum, [])
set_option maxRecDepth 100000 in
theorem ck_X7_checksum_0 : en_all x_X7_checksum_0 m_X7_checksum_0 u_X7_checksum_0 20 = true := by decide +kernel
theorem ct_X7_checksum_0 {l : Launch} (hl : l.stackTraces = false) {cx cy : Int32} : en_Ctr l vwCl en_TY0 (en_Pc cx cy) en_om0 (en_Oc cx cy) en_KT0 yX7_checksum (Cond.code yX7_checksum cX7_checksum 5 (some .long) :: en_cw) (en_rm 0 (0, 0)) 1 k_X7_checksum_0 :=
  en_main (X := x_X7_checksum_0) (M := m_X7_checksum_0) en_Pc_ok en_f32_ok en_f64_ok hl (by decide +kernel) ⟨en_FTX7_ok, en_PTX7_ok, en_an, en_LTX7_ok, en_LLX7_ok, en_TTX7_ok hl, cw256, cw147⟩ de_X7_checksum ck_X7_checksum_0
def k_X7_checksum_1 : en_K := (1, ([.inr (.inl 20), .inl (1, 9, 0, 0)], [(0, 0, 16, 1, 0, 0), (5, 0, 0, 0, 0, 0)]), [([.inr (.inl 20), .inr (.inr 0)], [(5, 0, 0, 0, 0, 0)])], [(20, 30)], [20, 23, 24], (0, 0), [])
def u_X7_checksum_1 : List en_U := [
  (11, ([.inr (.inl 20), .inl (0, 9, 0, 0), .inr (.inr 0), .inl (1, 9, 0, 0), .inl (0, 0, 0, 0)], [(0, 0, 16, 3, 0, 0), (0, 0, 30, 4, 0, 0), (5, 0, 0, 0, 0, 0)]), [(0, 0), (3, 1), (1, 2)], (0, 0), [((-1207), 1)], 13277), 
  (22, ([.inr (.inl 20), .inl (0, 600, 0, 0), .inl (0, 8, 0, 0), .inr (.inr 0), .inl (1, 9, 0, 0), .inl (0, 0, 0, 0)], [(0, 0, 16, 4, 0, 0), (0, 0, 30, 5, 0, 0), (5, 0, 0, 0, 0, 0)]), [(0, 0), (4, 1), (3, 2), (1, 3)], (0, 0), [((-1207), 2), ((-2), 1)], 13275)]
def x_X7_checksum_1 : en_Cx := ((en_KT0, en_TY0, en_om0), en_FTX7, en_PTX7, [], en_LTX7, en_LLX7, en_TTX7)
def m_X7_checksum_1 : en_Mx := (k_X7_checksum_1, 0, 5, (1, 0), tb_X7_checksum, [])
set_option maxRecDepth 100000 in
theorem ck_X7_checksum_1 : en_all x_X7_checksum_1 m_X7_checksum_1 u_X7_checksum_1 20 = true := by decide +kernel
theorem ct_X7_checksum_1 {l : Launch} (hl : l.stackTraces = false) {cx cy : Int32} : en_Ctr l vwCl en_TY0 (en_Pc cx cy) en_om0 (en_Oc cx cy) en_KT0 yX7_checksum (Cond.code yX7_checksum cX7_checksum 5 (some .long) :: en_cw) (en_rm 0 (0, 0)) 1 k_X7_checksum_1 :=
  en_main (X := x_X7_checksum_1) (M := m_X7_checksum_1) en_Pc_ok en_f32_ok en_f64_ok hl (by decide +kernel) ⟨en_FTX7_ok, en_PTX7_ok, en_an, en_LTX7_ok, en_LLX7_ok, en_TTX7_ok hl, cw256, cw147⟩ de_X7_checksum ck_X7_checksum_1
def tb_X7_concede : en_Tb := [
  (27, [(0, .iload_n 2, 1), (1, .bipush 115, 2), (3, .if_icmp .eq 15, 3), (6, .iload_n 2, 1), (7, .bipush 104, 2), (9, .if_icmp .eq 9, 3), (12, .iload_n 2, 1), (13, .bipush 109, 2), (15, .if_icmp .ne 7, 3), (18, .iconst 1, 1), (19, .goto 4, 3), (22, .iconst 0, 1), (23, .istore_n 3, 1), (24, .aload_n 0, 1), (25, .aload_n 0, 1), (26, .iload_n 1, 1)]), 
  (57, [(27, .invokevirtual 132, 3), (30, .iconst 1, 1), (31, .invokevirtual 110, 3), (34, .ifCond .ne 40, 3), (37, .aload_n 0, 1), (38, .iload_n 3, 1), (39, .ifCond .ne 7, 3), (42, .iconst 1, 1), (43, .goto 4, 3), (46, .iconst 0, 1), (47, .iconst 2, 1), (48, .invokevirtual 110, 3), (51, .ifCond .ne 23, 3), (54, .aload_n 0, 1), (55, .aload_n 0, 1), (56, .getfield 135, 3)]), 
  (89, [(59, .ifCond .ne 7, 3), (62, .iconst 1, 1), (63, .goto 4, 3), (66, .iconst 0, 1), (67, .iconst 3, 1), (68, .invokevirtual 110, 3), (71, .ifCond .eq 5, 3), (74, .iconst 0, 1), (75, .ireturn, 1), (76, .aload_n 0, 1), (77, .getfield 142, 3), (80, .bipush 109, 2), (82, .if_icmp .ne 44, 3), (85, .iload_n 2, 1), (86, .bipush 115, 2), (88, .if_icmp .ne 21, 3)]), 
  (117, [(91, .aload_n 0, 1), (92, .getfield 23, 3), (95, .iconst 1, 1), (96, .iload_n 1, 1), (97, .isub, 1), (98, .aaload, 1), (99, .iconst 0, 1), (100, .iaload, 1), (101, .bipush 108, 2), (103, .if_icmp .ne 23, 3), (106, .goto 16, 3), (109, .iload_n 2, 1), (110, .bipush 104, 2), (112, .if_icmp .ne 10, 3), (115, .aload_n 0, 1), (116, .getfield 157, 3)]), 
  (149, [(119, .ifCond .ge 7, 3), (122, .iconst 1, 1), (123, .goto 4, 3), (126, .iconst 0, 1), (127, .istore 4, 2), (129, .aload_n 0, 1), (130, .iload 4, 2), (132, .ifCond .ne 7, 3), (135, .iconst 1, 1), (136, .goto 4, 3), (139, .iconst 0, 1), (140, .iconst 4, 1), (141, .invokevirtual 110, 3), (144, .ifCond .eq 5, 3), (147, .iconst 0, 1), (148, .ireturn, 1)]), 
  (173, [(149, .aload_n 0, 1), (150, .iconst (-1), 1), (151, .putfield 160, 3), (154, .iload_n 2, 1), (155, .bipush 115, 2), (157, .if_icmp .ne 33, 3), (160, .aload_n 0, 1), (161, .getfield 23, 3), (164, .iconst 1, 1), (165, .iload_n 1, 1), (166, .isub, 1), (167, .aaload, 1), (168, .bipush 7, 2), (170, .dup2, 1), (171, .iaload, 1), (172, .iconst 1, 1)]), 
  (197, [(173, .iadd, 1), (174, .iastore, 1), (175, .aload_n 0, 1), (176, .getfield 23, 3), (179, .iconst 1, 1), (180, .iload_n 1, 1), (181, .isub, 1), (182, .aaload, 1), (183, .iconst 0, 1), (184, .bipush 104, 2), (186, .iastore, 1), (187, .goto 81, 3), (190, .iload_n 2, 1), (191, .bipush 104, 2), (193, .if_icmp .ne 70, 3), (196, .aload_n 0, 1)]), 
  (223, [(197, .iload_n 1, 1), (198, .putfield 157, 3), (201, .aload_n 0, 1), (202, .getfield 64, 3), (205, .aload_n 0, 1), (206, .getfield 92, 3), (209, .iconst 1, 1), (210, .iload_n 1, 1), (211, .isub, 1), (212, .iastore, 1), (213, .iconst 0, 1), (214, .istore 5, 2), (216, .iload 5, 2), (218, .iconst 2, 1), (219, .if_icmp .ge 41, 3), (222, .aload_n 0, 1)]), 
  (252, [(223, .getfield 23, 3), (226, .iload 5, 2), (228, .aaload, 1), (229, .iconst 0, 1), (230, .aload_n 0, 1), (231, .iload 5, 2), (233, .invokevirtual 163, 3), (236, .ifCond .eq 15, 3), (239, .aload_n 0, 1), (240, .getfield 23, 3), (243, .iload 5, 2), (245, .aaload, 1), (246, .iconst 0, 1), (247, .iaload, 1), (248, .goto 5, 3), (251, .bipush 117, 2)]), 
  (273, [(253, .iastore, 1), (254, .iinc 5 1, 3), (257, .goto (-41), 3), (260, .goto 8, 3), (263, .aload_n 0, 1), (264, .iconst 1, 1), (265, .putfield 148, 3), (268, .aload_n 0, 1), (269, .invokevirtual 236, 3), (272, .ireturn, 1)])]
set_option maxRecDepth 40000 in
theorem de_X7_concede : en_De tb_X7_concede cX7_concede := by
  unfold en_De
  decide +kernel
def k_X7_concede_0 : en_K := (3, ([.inr (.inl 20), .inl ((-2147483648), 2147483647, 0, 0), .inl (0, 65535, 0, 0), .inl (0, 0, 0, 0)], [(0, 0, 22, 3, 0, 0)]), [([.inr (.inl 20), .inl ((-2147483648), 2147483647, 0, 0), .inl (0, 65535, 0, 0), .inl (0, 0, 0, 0)], [])], [(20, 30)], [20], (0, 0), [])
def u_X7_concede_0 : List en_U := []
def x_X7_concede_0 : en_Cx := ((en_KT0, en_TY0, en_om0), en_FTX7, en_PTX7, [(110, true, 13, 0, 0, k_X7_isThrown_0), (110, true, 13, 0, 0, k_X7_isThrown_1), (110, true, 13, 0, 0, k_X7_isThrown_2), (110, true, 13, 0, 0, k_X7_isThrown_8), (110, true, 13, 0, 0, k_X7_isThrown_9), (132, true, 13, 0, 1, k_X7_isNoPlayer_0)], en_LTX7, en_LLX7, en_TTX7)
def m_X7_concede_0 : en_Mx := (k_X7_concede_0, 2, 6, (0, 0), tb_X7_concede, [])
set_option maxRecDepth 100000 in
theorem ck_X7_concede_0 : en_all x_X7_concede_0 m_X7_concede_0 u_X7_concede_0 40 = true := by decide +kernel
theorem ct_X7_concede_0 {l : Launch} (hl : l.stackTraces = false) {cx cy : Int32} : en_Ctr l vwCl en_TY0 (en_Pc cx cy) en_om0 (en_Oc cx cy) en_KT0 yX7_concede (Cond.code yX7_concede cX7_concede 6 (some .int) :: en_cw) (en_rm 2 (0, 0)) 0 k_X7_concede_0 :=
  en_main (X := x_X7_concede_0) (M := m_X7_concede_0) en_Pc_ok en_f32_ok en_f64_ok hl (by decide +kernel) ⟨en_FTX7_ok, en_PTX7_ok, en_ac (⟨yX7_isThrown, RX7, cX7_isThrown, 3, (some .boolean), by decide, ct_X7_isThrown_0 hl, fun _ => ⟨gc_RX7_110v, by decide, _, rfl, rfl⟩, fun h => Bool.noConfusion h⟩) (en_ac (⟨yX7_isThrown, RX7, cX7_isThrown, 3, (some .boolean), by decide, ct_X7_isThrown_1 hl, fun _ => ⟨gc_RX7_110v, by decide, _, rfl, rfl⟩, fun h => Bool.noConfusion h⟩) (en_ac (⟨yX7_isThrown, RX7, cX7_isThrown, 3, (some .boolean), by decide, ct_X7_isThrown_2 hl, fun _ => ⟨gc_RX7_110v, by decide, _, rfl, rfl⟩, fun h => Bool.noConfusion h⟩) (en_ac (⟨yX7_isThrown, RX7, cX7_isThrown, 3, (some .boolean), by decide, ct_X7_isThrown_8 hl, fun _ => ⟨gc_RX7_110v, by decide, _, rfl, rfl⟩, fun h => Bool.noConfusion h⟩) (en_ac (⟨yX7_isThrown, RX7, cX7_isThrown, 3, (some .boolean), by decide, ct_X7_isThrown_9 hl, fun _ => ⟨gc_RX7_110v, by decide, _, rfl, rfl⟩, fun h => Bool.noConfusion h⟩) (en_ac (⟨yX7_isNoPlayer, RX7, cX7_isNoPlayer, 2, (some .boolean), by decide, ct_X7_isNoPlayer_0 hl, fun _ => ⟨gc_RX7_132v, by decide, _, rfl, rfl⟩, fun h => Bool.noConfusion h⟩) en_an))))), en_LTX7_ok, en_LLX7_ok, en_TTX7_ok hl, cw256, cw147⟩ de_X7_concede ck_X7_concede_0
