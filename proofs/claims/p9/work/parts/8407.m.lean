def k_X7_free_1 : en_K := (4, ([.inr (.inl 20), .inl ((-2147483648), 2147483647, 0, 0), .inl ((-2147483648), 2147483647, 0, 0), .inl ((-2147483648), 2147483647, 0, 0), .inl (1, 1, 0, 0), .inl (0, 8, 0, 0)], [(0, 0, 22, 4, 0, 0), (0, 0, 25, 5, 0, 0), (5, 0, 0, 0, 0, 0)]), [([.inr (.inl 20), .inl ((-2147483648), 2147483647, 0, 0), .inl ((-2147483648), 2147483647, 0, 0), .inl ((-2147483648), 2147483647, 0, 0), .inl (0, 65535, 0, 0), .inl (1, 1, 0, 0), .inl (0, 8, 0, 0)], [(0, 0, 22, 5, 0, 0), (0, 0, 25, 6, 0, 0), (5, 0, 0, 0, 0, 0)])], [(20, 28), (20, 30), (27, 0)], [20, 21, 22, 23, 24, 26, 27], (0, 0), [])
def u_X7_free_1 : List en_U := []
def x_X7_free_1 : en_Cx := ((en_KT0, en_TY0, en_om0), en_FTX7, en_PTX7, [(102, false, 0, 0, 0, k_X7_far_0), (106, false, 0, 0, 1, k_X7_isCell_1), (110, true, 13, 0, 0, k_X7_isThrown_12), (110, true, 13, 0, 0, k_X7_isThrown_13), (110, true, 13, 0, 0, k_X7_isThrown_3), (110, true, 13, 0, 0, k_X7_isThrown_4), (110, true, 13, 0, 0, k_X7_isThrown_5), (110, true, 13, 0, 0, k_X7_isThrown_6), (110, true, 13, 0, 0, k_X7_isThrown_7), (132, true, 13, 0, 1, k_X7_isNoPlayer_1), (166, true, 13, 0, 1, k_X7_toCup_3), (166, true, 13, 0, 1, k_X7_toCup_4), (175, true, 13, 0, 0, k_X7_kind_3), (175, true, 13, 0, 0, k_X7_kind_5), (187, true, 13, 0, 2, k_X7_isCup_h0), (226, true, 13, 0, 1, k_X7_put_1), (230, true, 13, 0, 1, k_X7_isOnGround_0), (233, true, 13, 0, 3, k_X7_pointOf_0)], en_LTX7, en_LLX7, en_TTX7)
def m_X7_free_1 : en_Mx := (k_X7_free_1, 4, 10, (0, 1), tb_X7_free, [])
set_option maxRecDepth 100000 in
theorem ck_X7_free_1 : en_all x_X7_free_1 m_X7_free_1 u_X7_free_1 118 = true := by decide +kernel
theorem ct_X7_free_1 {l : Launch} (hl : l.stackTraces = false) {cx cy : Int32} : en_Ctr l vwCl en_TY0 (en_Pc cx cy) en_om0 (en_Oc cx cy) en_KT0 yX7_free (Cond.code yX7_free cX7_free 10 (some .char) :: en_cw) (en_rm 4 (0, 0)) 0 k_X7_free_1 :=
  en_main (X := x_X7_free_1) (M := m_X7_free_1) en_Pc_ok en_f32_ok en_f64_ok hl (by decide +kernel) ⟨en_FTX7_ok, en_PTX7_ok, en_ac (⟨yX7_far, RX7, cX7_far, 4, (some .int), by decide, ct_X7_far_0 hl, fun h => Bool.noConfusion h, fun _ => gc_RX7_102s⟩) (en_ac (⟨yX7_isCell, RX7, cX7_isCell, 2, (some .boolean), by decide, ct_X7_isCell_1 hl, fun h => Bool.noConfusion h, fun _ => gc_RX7_106s⟩) (en_ac (⟨yX7_isThrown, RX7, cX7_isThrown, 3, (some .boolean), by decide, ct_X7_isThrown_12 hl, fun _ => ⟨gc_RX7_110v, by decide, _, rfl, rfl⟩, fun h => Bool.noConfusion h⟩) (en_ac (⟨yX7_isThrown, RX7, cX7_isThrown, 3, (some .boolean), by decide, ct_X7_isThrown_13 hl, fun _ => ⟨gc_RX7_110v, by decide, _, rfl, rfl⟩, fun h => Bool.noConfusion h⟩) (en_ac (⟨yX7_isThrown, RX7, cX7_isThrown, 3, (some .boolean), by decide, ct_X7_isThrown_3 hl, fun _ => ⟨gc_RX7_110v, by decide, _, rfl, rfl⟩, fun h => Bool.noConfusion h⟩) (en_ac (⟨yX7_isThrown, RX7, cX7_isThrown, 3, (some .boolean), by decide, ct_X7_isThrown_4 hl, fun _ => ⟨gc_RX7_110v, by decide, _, rfl, rfl⟩, fun h => Bool.noConfusion h⟩) (en_ac (⟨yX7_isThrown, RX7, cX7_isThrown, 3, (some .boolean), by decide, ct_X7_isThrown_5 hl, fun _ => ⟨gc_RX7_110v, by decide, _, rfl, rfl⟩, fun h => Bool.noConfusion h⟩) (en_ac (⟨yX7_isThrown, RX7, cX7_isThrown, 3, (some .boolean), by decide, ct_X7_isThrown_6 hl, fun _ => ⟨gc_RX7_110v, by decide, _, rfl, rfl⟩, fun h => Bool.noConfusion h⟩) (en_ac (⟨yX7_isThrown, RX7, cX7_isThrown, 3, (some .boolean), by decide, ct_X7_isThrown_7 hl, fun _ => ⟨gc_RX7_110v, by decide, _, rfl, rfl⟩, fun h => Bool.noConfusion h⟩) (en_ac (⟨yX7_isNoPlayer, RX7, cX7_isNoPlayer, 2, (some .boolean), by decide, ct_X7_isNoPlayer_1 hl, fun _ => ⟨gc_RX7_132v, by decide, _, rfl, rfl⟩, fun h => Bool.noConfusion h⟩) (en_ac (⟨yX7_toCup, RX7, cX7_toCup, 3, (some .int), by decide, ct_X7_toCup_3 hl, fun _ => ⟨gc_RX7_166v, by decide, _, rfl, rfl⟩, fun h => Bool.noConfusion h⟩) (en_ac (⟨yX7_toCup, RX7, cX7_toCup, 3, (some .int), by decide, ct_X7_toCup_4 hl, fun _ => ⟨gc_RX7_166v, by decide, _, rfl, rfl⟩, fun h => Bool.noConfusion h⟩) (en_ac (⟨yX7_kind, RX7, cX7_kind, 3, (some .char), by decide, ct_X7_kind_3 hl, fun _ => ⟨gc_RX7_175v, by decide, _, rfl, rfl⟩, fun h => Bool.noConfusion h⟩) (en_ac (⟨yX7_kind, RX7, cX7_kind, 3, (some .char), by decide, ct_X7_kind_5 hl, fun _ => ⟨gc_RX7_175v, by decide, _, rfl, rfl⟩, fun h => Bool.noConfusion h⟩) (en_ac (⟨yX7_isCup, RX7, cX7_isCup, 3, (some .boolean), by decide, ct_X7_isCup_h0 hl, fun _ => ⟨gc_RX7_187v, by decide, _, rfl, rfl⟩, fun h => Bool.noConfusion h⟩) (en_ac (⟨yX7_put, RX7, cX7_put, 5, (some .int), by decide, ct_X7_put_1 hl, fun _ => ⟨gc_RX7_226v, by decide, _, rfl, rfl⟩, fun h => Bool.noConfusion h⟩) (en_ac (⟨yX7_isOnGround, RX7, cX7_isOnGround, 2, (some .boolean), by decide, ct_X7_isOnGround_0 hl, fun _ => ⟨gc_RX7_230v, by decide, _, rfl, rfl⟩, fun h => Bool.noConfusion h⟩) (en_ac (⟨yX7_pointOf, RX7, cX7_pointOf, 9, (some .int), by decide, ct_X7_pointOf_0 hl, fun _ => ⟨gc_RX7_233v, by decide, _, rfl, rfl⟩, fun h => Bool.noConfusion h⟩) en_an))))))))))))))))), en_LTX7_ok, en_LLX7_ok, en_TTX7_ok hl, cw256, cw147⟩ de_X7_free ck_X7_free_1
def tb_X7_strokesFor : en_Tb := [
  (25, [(0, .iconst 0, 1), (1, .istore_n 3, 1), (2, .iconst 0, 1), (3, .istore 4, 2), (5, .iload 4, 2), (7, .aload_n 0, 1), (8, .getfield 86, 3), (11, .if_icmp .ge 37, 3), (14, .iload_n 3, 1), (15, .aload_n 0, 1), (16, .getfield 11, 3), (19, .iload 4, 2), (21, .aaload, 1), (22, .iconst 1, 1), (23, .iaload, 1), (24, .aload_n 0, 1)]), 
  (51, [(25, .getfield 11, 3), (28, .iload_n 2, 1), (29, .aaload, 1), (30, .iconst 1, 1), (31, .iaload, 1), (32, .if_icmp .ge 7, 3), (35, .iconst 1, 1), (36, .goto 4, 3), (39, .iconst 0, 1), (40, .iadd, 1), (41, .istore_n 3, 1), (42, .iinc 4 1, 3), (45, .goto (-40), 3), (48, .iload_n 1, 1), (49, .aload_n 0, 1), (50, .getfield 86, 3)]), 
  (71, [(53, .idiv, 1), (54, .iload_n 3, 1), (55, .iload_n 1, 1), (56, .aload_n 0, 1), (57, .getfield 86, 3), (60, .irem, 1), (61, .if_icmp .ge 7, 3), (64, .iconst 1, 1), (65, .goto 4, 3), (68, .iconst 0, 1), (69, .iadd, 1), (70, .ireturn, 1)])]
set_option maxRecDepth 40000 in
theorem de_X7_strokesFor : en_De tb_X7_strokesFor cX7_strokesFor := by
  unfold en_De
  decide +kernel
def k_X7_strokesFor_0 : en_K := (3, ([.inr (.inl 20), .inl (0, 36, 0, 0), .inl (0, 8, 0, 0), .inl (1, 9, 0, 0)], [(0, 0, 16, 3, 0, 0)]), [([.inr (.inl 20), .inl (0, 36, 0, 0), .inl (0, 8, 0, 0), .inl (0, 37, 0, 0), .inl (1, 9, 0, 0)], [(0, 0, 16, 4, 0, 0)])], [], [20, 21, 22], (0, 0), [])
def u_X7_strokesFor_0 : List en_U := [
  (5, ([.inr (.inl 20), .inl (0, 36, 0, 0), .inl (0, 8, 0, 0), .inl (0, 9, 0, 0), .inl ((-2147483648), 2147483647, 0, 0), .inl (1, 9, 0, 0)], [(0, 0, 16, 5, 0, 0)]), [(0, 0), (1, 1), (2, 2), (4, 3), (3, 4)], (0, 0), [((-2), 3)], 22)]
def x_X7_strokesFor_0 : en_Cx := ((en_KT0, en_TY0, en_om0), en_FTX7, en_PTX7, [], en_LTX7, en_LLX7, en_TTX7)
def m_X7_strokesFor_0 : en_Mx := (k_X7_strokesFor_0, 0, 5, (0, 0), tb_X7_strokesFor, [])
set_option maxRecDepth 100000 in
theorem ck_X7_strokesFor_0 : en_all x_X7_strokesFor_0 m_X7_strokesFor_0 u_X7_strokesFor_0 27 = true := by decide +kernel
theorem ct_X7_strokesFor_0 {l : Launch} (hl : l.stackTraces = false) {cx cy : Int32} : en_Ctr l vwCl en_TY0 (en_Pc cx cy) en_om0 (en_Oc cx cy) en_KT0 yX7_strokesFor (Cond.code yX7_strokesFor cX7_strokesFor 5 (some .int) :: en_cw) (en_rm 0 (0, 0)) 0 k_X7_strokesFor_0 :=
  en_main (X := x_X7_strokesFor_0) (M := m_X7_strokesFor_0) en_Pc_ok en_f32_ok en_f64_ok hl (by decide +kernel) ⟨en_FTX7_ok, en_PTX7_ok, en_an, en_LTX7_ok, en_LLX7_ok, en_TTX7_ok hl, cw256, cw147⟩ de_X7_strokesFor ck_X7_strokesFor_0
def tb_X7_gets : en_Tb := [
  (30, [(0, .aload_n 0, 1), (1, .aload_n 0, 1), (2, .iload_n 1, 1), (3, .invokevirtual 132, 3), (6, .ifCond .ne 11, 3), (9, .aload_n 0, 1), (10, .iload_n 2, 1), (11, .invokevirtual 128, 3), (14, .ifCond .eq 7, 3), (17, .iconst 1, 1), (18, .goto 4, 3), (21, .iconst 0, 1), (22, .iconst 1, 1), (23, .invokevirtual 110, 3), (26, .ifCond .eq 7, 3), (29, .iconst 0, 1)]), 
  (45, [(30, .goto 14, 3), (33, .aload_n 0, 1), (34, .aload_n 0, 1), (35, .getfield 19, 3), (38, .iload_n 1, 1), (39, .iaload, 1), (40, .iload_n 2, 1), (41, .invokevirtual 138, 3), (44, .ireturn, 1)])]
set_option maxRecDepth 40000 in
theorem de_X7_gets : en_De tb_X7_gets cX7_gets := by
  unfold en_De
  decide +kernel
def k_X7_gets_0 : en_K := (3, ([.inr (.inl 20), .inl ((-2147483648), 2147483647, 0, 0), .inl ((-2147483648), 2147483647, 0, 0)], []), [([.inr (.inl 20), .inl ((-2147483648), 2147483647, 0, 0), .inl ((-2147483648), 2147483647, 0, 0), .inl (0, 37, 0, 0)], [])], [(20, 30)], [20, 21, 22, 25], (0, 0), [])
def u_X7_gets_0 : List en_U := []
def x_X7_gets_0 : en_Cx := ((en_KT0, en_TY0, en_om0), en_FTX7, en_PTX7, [(110, true, 13, 0, 0, k_X7_isThrown_0), (110, true, 13, 0, 0, k_X7_isThrown_1), (128, true, 13, 0, 1, k_X7_isNoHole_0), (132, true, 13, 0, 1, k_X7_isNoPlayer_0), (138, true, 13, 0, 0, k_X7_strokesFor_0)], en_LTX7, en_LLX7, en_TTX7)
def m_X7_gets_0 : en_Mx := (k_X7_gets_0, 2, 3, (0, 0), tb_X7_gets, [])
set_option maxRecDepth 100000 in
theorem ck_X7_gets_0 : en_all x_X7_gets_0 m_X7_gets_0 u_X7_gets_0 24 = true := by decide +kernel
theorem ct_X7_gets_0 {l : Launch} (hl : l.stackTraces = false) {cx cy : Int32} : en_Ctr l vwCl en_TY0 (en_Pc cx cy) en_om0 (en_Oc cx cy) en_KT0 yX7_gets (Cond.code yX7_gets cX7_gets 3 (some .int) :: en_cw) (en_rm 2 (0, 0)) 0 k_X7_gets_0 :=
  en_main (X := x_X7_gets_0) (M := m_X7_gets_0) en_Pc_ok en_f32_ok en_f64_ok hl (by decide +kernel) ⟨en_FTX7_ok, en_PTX7_ok, en_ac (⟨yX7_isThrown, RX7, cX7_isThrown, 3, (some .boolean), by decide, ct_X7_isThrown_0 hl, fun _ => ⟨gc_RX7_110v, by decide, _, rfl, rfl⟩, fun h => Bool.noConfusion h⟩) (en_ac (⟨yX7_isThrown, RX7, cX7_isThrown, 3, (some .boolean), by decide, ct_X7_isThrown_1 hl, fun _ => ⟨gc_RX7_110v, by decide, _, rfl, rfl⟩, fun h => Bool.noConfusion h⟩) (en_ac (⟨yX7_isNoHole, RX7, cX7_isNoHole, 2, (some .boolean), by decide, ct_X7_isNoHole_0 hl, fun _ => ⟨gc_RX7_128v, by decide, _, rfl, rfl⟩, fun h => Bool.noConfusion h⟩) (en_ac (⟨yX7_isNoPlayer, RX7, cX7_isNoPlayer, 2, (some .boolean), by decide, ct_X7_isNoPlayer_0 hl, fun _ => ⟨gc_RX7_132v, by decide, _, rfl, rfl⟩, fun h => Bool.noConfusion h⟩) (en_ac (⟨yX7_strokesFor, RX7, cX7_strokesFor, 5, (some .int), by decide, ct_X7_strokesFor_0 hl, fun _ => ⟨gc_RX7_138v, by decide, _, rfl, rfl⟩, fun h => Bool.noConfusion h⟩) en_an)))), en_LTX7_ok, en_LLX7_ok, en_TTX7_ok hl, cw256, cw147⟩ de_X7_gets ck_X7_gets_0
def k_X7_strokesFor_1 : en_K := (3, ([.inr (.inl 20), .inl (0, 36, 0, 0), .inl (0, 8, 0, 0), .inl (1, 9, 0, 0), .inl (1, 9, 0, 0)], [(0, 0, 16, 3, 0, 0), (0, 0, 16, 4, 0, 0), (5, 0, 0, 0, 0, 0)]), [([.inr (.inl 20), .inl (0, 36, 0, 0), .inl (0, 8, 0, 0), .inl (0, 37, 0, 0), .inl (1, 9, 0, 0)], [(0, 0, 16, 4, 0, 0), (5, 0, 0, 0, 0, 0)])], [], [20, 21, 22], (0, 0), [])
def u_X7_strokesFor_1 : List en_U := [
  (5, ([.inr (.inl 20), .inl (0, 36, 0, 0), .inl (0, 8, 0, 0), .inl (0, 9, 0, 0), .inl ((-2147483648), 2147483647, 0, 0), .inl (1, 9, 0, 0)], [(0, 0, 16, 5, 0, 0), (5, 0, 0, 0, 0, 0)]), [(0, 0), (1, 1), (2, 2), (4, 3), (3, 4)], (0, 0), [((-2), 3)], 22)]
def x_X7_strokesFor_1 : en_Cx := ((en_KT0, en_TY0, en_om0), en_FTX7, en_PTX7, [], en_LTX7, en_LLX7, en_TTX7)
def m_X7_strokesFor_1 : en_Mx := (k_X7_strokesFor_1, 0, 5, (0, 0), tb_X7_strokesFor, [])
set_option maxRecDepth 100000 in
theorem ck_X7_strokesFor_1 : en_all x_X7_strokesFor_1 m_X7_strokesFor_1 u_X7_strokesFor_1 27 = true := by decide +kernel
theorem ct_X7_strokesFor_1 {l : Launch} (hl : l.stackTraces = false) {cx cy : Int32} : en_Ctr l vwCl en_TY0 (en_Pc cx cy) en_om0 (en_Oc cx cy) en_KT0 yX7_strokesFor (Cond.code yX7_strokesFor cX7_strokesFor 5 (some .int) :: en_cw) (en_rm 0 (0, 0)) 0 k_X7_strokesFor_1 :=
  en_main (X := x_X7_strokesFor_1) (M := m_X7_strokesFor_1) en_Pc_ok en_f32_ok en_f64_ok hl (by decide +kernel) ⟨en_FTX7_ok, en_PTX7_ok, en_an, en_LTX7_ok, en_LLX7_ok, en_TTX7_ok hl, cw256, cw147⟩ de_X7_strokesFor ck_X7_strokesFor_1
def k_X7_gets_1 : en_K := (3, ([.inr (.inl 20), .inl ((-2147483648), 2147483647, 0, 0), .inl ((-2147483648), 2147483647, 0, 0), .inl (1, 9, 0, 0)], [(0, 0, 16, 3, 0, 0), (5, 0, 0, 0, 0, 0)]), [([.inr (.inl 20), .inl ((-2147483648), 2147483647, 0, 0), .inl ((-2147483648), 2147483647, 0, 0), .inl (0, 37, 0, 0), .inl (1, 9, 0, 0)], [(0, 0, 16, 4, 0, 0), (5, 0, 0, 0, 0, 0)])], [(20, 30)], [20, 21, 22, 25], (0, 0), [])
def u_X7_gets_1 : List en_U := []
def x_X7_gets_1 : en_Cx := ((en_KT0, en_TY0, en_om0), en_FTX7, en_PTX7, [(110, true, 13, 0, 0, k_X7_isThrown_3), (110, true, 13, 0, 0, k_X7_isThrown_4), (128, true, 13, 0, 1, k_X7_isNoHole_1), (132, true, 13, 0, 1, k_X7_isNoPlayer_1), (138, true, 13, 0, 0, k_X7_strokesFor_1)], en_LTX7, en_LLX7, en_TTX7)
def m_X7_gets_1 : en_Mx := (k_X7_gets_1, 2, 3, (0, 0), tb_X7_gets, [])
set_option maxRecDepth 100000 in
theorem ck_X7_gets_1 : en_all x_X7_gets_1 m_X7_gets_1 u_X7_gets_1 24 = true := by decide +kernel
theorem ct_X7_gets_1 {l : Launch} (hl : l.stackTraces = false) {cx cy : Int32} : en_Ctr l vwCl en_TY0 (en_Pc cx cy) en_om0 (en_Oc cx cy) en_KT0 yX7_gets (Cond.code yX7_gets cX7_gets 3 (some .int) :: en_cw) (en_rm 2 (0, 0)) 0 k_X7_gets_1 :=
  en_main (X := x_X7_gets_1) (M := m_X7_gets_1) en_Pc_ok en_f32_ok en_f64_ok hl (by decide +kernel) ⟨en_FTX7_ok, en_PTX7_ok, en_ac (⟨yX7_isThrown, RX7, cX7_isThrown, 3, (some .boolean), by decide, ct_X7_isThrown_3 hl, fun _ => ⟨gc_RX7_110v, by decide, _, rfl, rfl⟩, fun h => Bool.noConfusion h⟩) (en_ac (⟨yX7_isThrown, RX7, cX7_isThrown, 3, (some .boolean), by decide, ct_X7_isThrown_4 hl, fun _ => ⟨gc_RX7_110v, by decide, _, rfl, rfl⟩, fun h => Bool.noConfusion h⟩) (en_ac (⟨yX7_isNoHole, RX7, cX7_isNoHole, 2, (some .boolean), by decide, ct_X7_isNoHole_1 hl, fun _ => ⟨gc_RX7_128v, by decide, _, rfl, rfl⟩, fun h => Bool.noConfusion h⟩) (en_ac (⟨yX7_isNoPlayer, RX7, cX7_isNoPlayer, 2, (some .boolean), by decide, ct_X7_isNoPlayer_1 hl, fun _ => ⟨gc_RX7_132v, by decide, _, rfl, rfl⟩, fun h => Bool.noConfusion h⟩) (en_ac (⟨yX7_strokesFor, RX7, cX7_strokesFor, 5, (some .int), by decide, ct_X7_strokesFor_1 hl, fun _ => ⟨gc_RX7_138v, by decide, _, rfl, rfl⟩, fun h => Bool.noConfusion h⟩) en_an)))), en_LTX7_ok, en_LLX7_ok, en_TTX7_ok hl, cw256, cw147⟩ de_X7_gets ck_X7_gets_1
def k_X7_isIn_14 : en_K := (3, ([.inl ((-2147483648), 2147483647, 0, 0), .inl (3, 3, 0, 0), .inl (5, 5, 0, 0)], []), [([.inl ((-2147483648), 2147483647, 0, 0), .inl (3, 3, 0, 0), .inl (5, 5, 0, 0), .inl (0, 0, 0, 0)], []), ([.inl (3, 5, 0, 0), .inl (3, 3, 0, 0), .inl (5, 5, 0, 0), .inl (1, 1, 0, 0)], [])], [], [], (0, 0), [])
def u_X7_isIn_14 : List en_U := []
def x_X7_isIn_14 : en_Cx := ((en_KT0, en_TY0, en_om0), en_FTX7, en_PTX7, [], en_LTX7, en_LLX7, en_TTX7)
def m_X7_isIn_14 : en_Mx := (k_X7_isIn_14, 0, 3, (0, 2), tb_X7_isIn, [])
set_option maxRecDepth 100000 in
theorem ck_X7_isIn_14 : en_all x_X7_isIn_14 m_X7_isIn_14 u_X7_isIn_14 12 = true := by decide +kernel
theorem ct_X7_isIn_14 {l : Launch} (hl : l.stackTraces = false) {cx cy : Int32} : en_Ctr l vwCl en_TY0 (en_Pc cx cy) en_om0 (en_Oc cx cy) en_KT0 yX7_isIn (Cond.code yX7_isIn cX7_isIn 3 (some .boolean) :: en_cw) (en_rm 0 (0, 0)) 0 k_X7_isIn_14 :=
  en_main (X := x_X7_isIn_14) (M := m_X7_isIn_14) en_Pc_ok en_f32_ok en_f64_ok hl (by decide +kernel) ⟨en_FTX7_ok, en_PTX7_ok, en_an, en_LTX7_ok, en_LLX7_ok, en_TTX7_ok hl, cw256, cw147⟩ de_X7_isIn ck_X7_isIn_14
def k_X7_isIn_15 : en_K := (3, ([.inl ((-2147483648), 2147483647, 0, 0), .inl (1, 1, 0, 0), .inl (9, 9, 0, 0)], []), [([.inl ((-2147483648), 2147483647, 0, 0), .inl (1, 1, 0, 0), .inl (9, 9, 0, 0), .inl (0, 0, 0, 0)], []), ([.inl (1, 9, 0, 0), .inl (1, 1, 0, 0), .inl (9, 9, 0, 0), .inl (1, 1, 0, 0)], [])], [], [], (0, 0), [])
def u_X7_isIn_15 : List en_U := []
def x_X7_isIn_15 : en_Cx := ((en_KT0, en_TY0, en_om0), en_FTX7, en_PTX7, [], en_LTX7, en_LLX7, en_TTX7)
def m_X7_isIn_15 : en_Mx := (k_X7_isIn_15, 0, 3, (0, 2), tb_X7_isIn, [])
set_option maxRecDepth 100000 in
theorem ck_X7_isIn_15 : en_all x_X7_isIn_15 m_X7_isIn_15 u_X7_isIn_15 12 = true := by decide +kernel
theorem ct_X7_isIn_15 {l : Launch} (hl : l.stackTraces = false) {cx cy : Int32} : en_Ctr l vwCl en_TY0 (en_Pc cx cy) en_om0 (en_Oc cx cy) en_KT0 yX7_isIn (Cond.code yX7_isIn cX7_isIn 3 (some .boolean) :: en_cw) (en_rm 0 (0, 0)) 0 k_X7_isIn_15 :=
  en_main (X := x_X7_isIn_15) (M := m_X7_isIn_15) en_Pc_ok en_f32_ok en_f64_ok hl (by decide +kernel) ⟨en_FTX7_ok, en_PTX7_ok, en_an, en_LTX7_ok, en_LLX7_ok, en_TTX7_ok hl, cw256, cw147⟩ de_X7_isIn ck_X7_isIn_15
def k_X7_isIn_16 : en_K := (3, ([.inl ((-2147483648), 2147483647, 0, 0), .inl (3, 3, 0, 0), .inl (5, 5, 0, 0)], [(5, 0, 0, 0, 0, 0)]), [([.inl ((-2147483648), 2147483647, 0, 0), .inl (3, 3, 0, 0), .inl (5, 5, 0, 0), .inl (0, 0, 0, 0)], [(5, 0, 0, 0, 0, 0)]), ([.inl (3, 5, 0, 0), .inl (3, 3, 0, 0), .inl (5, 5, 0, 0), .inl (1, 1, 0, 0)], [(5, 0, 0, 0, 0, 0)])], [], [], (0, 0), [])
def u_X7_isIn_16 : List en_U := []
def x_X7_isIn_16 : en_Cx := ((en_KT0, en_TY0, en_om0), en_FTX7, en_PTX7, [], en_LTX7, en_LLX7, en_TTX7)
def m_X7_isIn_16 : en_Mx := (k_X7_isIn_16, 0, 3, (0, 2), tb_X7_isIn, [])
set_option maxRecDepth 100000 in
theorem ck_X7_isIn_16 : en_all x_X7_isIn_16 m_X7_isIn_16 u_X7_isIn_16 12 = true := by decide +kernel
theorem ct_X7_isIn_16 {l : Launch} (hl : l.stackTraces = false) {cx cy : Int32} : en_Ctr l vwCl en_TY0 (en_Pc cx cy) en_om0 (en_Oc cx cy) en_KT0 yX7_isIn (Cond.code yX7_isIn cX7_isIn 3 (some .boolean) :: en_cw) (en_rm 0 (0, 0)) 0 k_X7_isIn_16 :=
  en_main (X := x_X7_isIn_16) (M := m_X7_isIn_16) en_Pc_ok en_f32_ok en_f64_ok hl (by decide +kernel) ⟨en_FTX7_ok, en_PTX7_ok, en_an, en_LTX7_ok, en_LLX7_ok, en_TTX7_ok hl, cw256, cw147⟩ de_X7_isIn ck_X7_isIn_16
def k_X7_isIn_17 : en_K := (3, ([.inl ((-2147483648), 2147483647, 0, 0), .inl (1, 1, 0, 0), .inl (9, 9, 0, 0)], [(5, 0, 0, 0, 0, 0)]), [([.inl ((-2147483648), 2147483647, 0, 0), .inl (1, 1, 0, 0), .inl (9, 9, 0, 0), .inl (0, 0, 0, 0)], [(5, 0, 0, 0, 0, 0)]), ([.inl (1, 9, 0, 0), .inl (1, 1, 0, 0), .inl (9, 9, 0, 0), .inl (1, 1, 0, 0)], [(5, 0, 0, 0, 0, 0)])], [], [], (0, 0), [])
def u_X7_isIn_17 : List en_U := []
def x_X7_isIn_17 : en_Cx := ((en_KT0, en_TY0, en_om0), en_FTX7, en_PTX7, [], en_LTX7, en_LLX7, en_TTX7)
def m_X7_isIn_17 : en_Mx := (k_X7_isIn_17, 0, 3, (0, 2), tb_X7_isIn, [])
set_option maxRecDepth 100000 in
theorem ck_X7_isIn_17 : en_all x_X7_isIn_17 m_X7_isIn_17 u_X7_isIn_17 12 = true := by decide +kernel
theorem ct_X7_isIn_17 {l : Launch} (hl : l.stackTraces = false) {cx cy : Int32} : en_Ctr l vwCl en_TY0 (en_Pc cx cy) en_om0 (en_Oc cx cy) en_KT0 yX7_isIn (Cond.code yX7_isIn cX7_isIn 3 (some .boolean) :: en_cw) (en_rm 0 (0, 0)) 0 k_X7_isIn_17 :=
  en_main (X := x_X7_isIn_17) (M := m_X7_isIn_17) en_Pc_ok en_f32_ok en_f64_ok hl (by decide +kernel) ⟨en_FTX7_ok, en_PTX7_ok, en_an, en_LTX7_ok, en_LLX7_ok, en_TTX7_ok hl, cw256, cw147⟩ de_X7_isIn ck_X7_isIn_17
def k_X7_isThrown_14 : en_K := (3, ([.inr (.inl 20), .inl (0, 1, 0, 0), .inl (3, 3, 0, 0)], [(5, 0, 0, 0, 0, 0)]), [([.inr (.inl 20), .inl (0, 0, 0, 0), .inl (3, 3, 0, 0), .inl (0, 0, 0, 0)], [(5, 0, 0, 0, 0, 0)]), ([.inr (.inl 20), .inl (1, 1, 0, 0), .inl (3, 3, 0, 0), .inl (1, 1, 0, 0)], [(0, 0, 30, 2, 0, 0), (5, 0, 0, 0, 0, 0), (6, 1, 0, 0, 0, 0)])], [(20, 30)], [20], (0, 0), [])
def u_X7_isThrown_14 : List en_U := []
def x_X7_isThrown_14 : en_Cx := ((en_KT0, en_TY0, en_om0), en_FTX7, en_PTX7, [], en_LTX7, en_LLX7, en_TTX7)
def m_X7_isThrown_14 : en_Mx := (k_X7_isThrown_14, 0, 3, (0, 2), tb_X7_isThrown, [])
set_option maxRecDepth 100000 in
theorem ck_X7_isThrown_14 : en_all x_X7_isThrown_14 m_X7_isThrown_14 u_X7_isThrown_14 11 = true := by decide +kernel
theorem ct_X7_isThrown_14 {l : Launch} (hl : l.stackTraces = false) {cx cy : Int32} : en_Ctr l vwCl en_TY0 (en_Pc cx cy) en_om0 (en_Oc cx cy) en_KT0 yX7_isThrown (Cond.code yX7_isThrown cX7_isThrown 3 (some .boolean) :: en_cw) (en_rm 0 (0, 0)) 0 k_X7_isThrown_14 :=
  en_main (X := x_X7_isThrown_14) (M := m_X7_isThrown_14) en_Pc_ok en_f32_ok en_f64_ok hl (by decide +kernel) ⟨en_FTX7_ok, en_PTX7_ok, en_an, en_LTX7_ok, en_LLX7_ok, en_TTX7_ok hl, cw256, cw147⟩ de_X7_isThrown ck_X7_isThrown_14
def tb_X7_holeOn : en_Tb := [
  (29, [(0, .aload_n 0, 1), (1, .aload_n 0, 1), (2, .getfield 135, 3), (5, .ifCond .ne 7, 3), (8, .iconst 1, 1), (9, .goto 4, 3), (12, .iconst 0, 1), (13, .iconst 1, 1), (14, .invokevirtual 110, 3), (17, .ifCond .eq 7, 3), (20, .iconst 0, 1), (21, .goto 7, 3), (24, .aload_n 0, 1), (25, .getfield 92, 3), (28, .ireturn, 1)])]
set_option maxRecDepth 40000 in
theorem de_X7_holeOn : en_De tb_X7_holeOn cX7_holeOn := by
  unfold en_De
  decide +kernel
def k_X7_holeOn_0 : en_K := (1, ([.inr (.inl 20), .inl (0, 0, 0, 0)], [(0, 0, 22, 1, 0, 0)]), [([.inr (.inl 20), .inl (0, 0, 0, 0), .inl (0, 0, 0, 0)], [(0, 0, 22, 2, 0, 0)])], [(20, 30)], [20], (0, 0), [])
def u_X7_holeOn_0 : List en_U := []
def x_X7_holeOn_0 : en_Cx := ((en_KT0, en_TY0, en_om0), en_FTX7, en_PTX7, [(110, true, 13, 0, 0, k_X7_isThrown_0)], en_LTX7, en_LLX7, en_TTX7)
def m_X7_holeOn_0 : en_Mx := (k_X7_holeOn_0, 1, 1, (0, 0), tb_X7_holeOn, [])
set_option maxRecDepth 100000 in
theorem ck_X7_holeOn_0 : en_all x_X7_holeOn_0 m_X7_holeOn_0 u_X7_holeOn_0 15 = true := by decide +kernel
theorem ct_X7_holeOn_0 {l : Launch} (hl : l.stackTraces = false) {cx cy : Int32} : en_Ctr l vwCl en_TY0 (en_Pc cx cy) en_om0 (en_Oc cx cy) en_KT0 yX7_holeOn (Cond.code yX7_holeOn cX7_holeOn 1 (some .int) :: en_cw) (en_rm 1 (0, 0)) 0 k_X7_holeOn_0 :=
  en_main (X := x_X7_holeOn_0) (M := m_X7_holeOn_0) en_Pc_ok en_f32_ok en_f64_ok hl (by decide +kernel) ⟨en_FTX7_ok, en_PTX7_ok, en_ac (⟨yX7_isThrown, RX7, cX7_isThrown, 3, (some .boolean), by decide, ct_X7_isThrown_0 hl, fun _ => ⟨gc_RX7_110v, by decide, _, rfl, rfl⟩, fun h => Bool.noConfusion h⟩) en_an, en_LTX7_ok, en_LLX7_ok, en_TTX7_ok hl, cw256, cw147⟩ de_X7_holeOn ck_X7_holeOn_0
def k_X7_holeOn_1 : en_K := (1, ([.inr (.inl 20), .inl (1, 1, 0, 0), .inl (0, 8, 0, 0)], [(0, 0, 22, 1, 0, 0), (0, 0, 25, 2, 0, 0), (5, 0, 0, 0, 0, 0)]), [([.inr (.inl 20), .inl (0, 8, 0, 0), .inl (1, 1, 0, 0)], [(0, 0, 25, 1, 0, 0), (0, 0, 22, 2, 0, 0), (5, 0, 0, 0, 0, 0), (6, 2, 0, 0, 0, 0)])], [(20, 30)], [20], (0, 0), [])
def u_X7_holeOn_1 : List en_U := []
def x_X7_holeOn_1 : en_Cx := ((en_KT0, en_TY0, en_om0), en_FTX7, en_PTX7, [(110, true, 13, 0, 0, k_X7_isThrown_4)], en_LTX7, en_LLX7, en_TTX7)
def m_X7_holeOn_1 : en_Mx := (k_X7_holeOn_1, 1, 1, (0, 0), tb_X7_holeOn, [])
set_option maxRecDepth 100000 in
theorem ck_X7_holeOn_1 : en_all x_X7_holeOn_1 m_X7_holeOn_1 u_X7_holeOn_1 14 = true := by decide +kernel
theorem ct_X7_holeOn_1 {l : Launch} (hl : l.stackTraces = false) {cx cy : Int32} : en_Ctr l vwCl en_TY0 (en_Pc cx cy) en_om0 (en_Oc cx cy) en_KT0 yX7_holeOn (Cond.code yX7_holeOn cX7_holeOn 1 (some .int) :: en_cw) (en_rm 1 (0, 0)) 0 k_X7_holeOn_1 :=
  en_main (X := x_X7_holeOn_1) (M := m_X7_holeOn_1) en_Pc_ok en_f32_ok en_f64_ok hl (by decide +kernel) ⟨en_FTX7_ok, en_PTX7_ok, en_ac (⟨yX7_isThrown, RX7, cX7_isThrown, 3, (some .boolean), by decide, ct_X7_isThrown_4 hl, fun _ => ⟨gc_RX7_110v, by decide, _, rfl, rfl⟩, fun h => Bool.noConfusion h⟩) en_an, en_LTX7_ok, en_LLX7_ok, en_TTX7_ok hl, cw256, cw147⟩ de_X7_holeOn ck_X7_holeOn_1
def tb_X7_isMatchOver : en_Tb := [
  (29, [(0, .aload_n 0, 1), (1, .aload_n 0, 1), (2, .getfield 142, 3), (5, .bipush 109, 2), (7, .if_icmp .eq 7, 3), (10, .iconst 1, 1), (11, .goto 4, 3), (14, .iconst 0, 1), (15, .iconst 1, 1), (16, .invokevirtual 110, 3), (19, .ifCond .eq 5, 3), (22, .iconst 0, 1), (23, .ireturn, 1), (24, .aload_n 0, 1), (25, .getfield 135, 3), (28, .ifCond .eq 28, 3)]), 
  (59, [(31, .aload_n 0, 1), (32, .getfield 86, 3), (35, .aload_n 0, 1), (36, .getfield 151, 3), (39, .isub, 1), (40, .aload_n 0, 1), (41, .getfield 157, 3), (44, .ifCond .ge 7, 3), (47, .iconst 0, 1), (48, .goto 4, 3), (51, .iconst 1, 1), (52, .isub, 1), (53, .goto 4, 3), (56, .iconst 0, 1), (57, .istore_n 1, 1), (58, .aload_n 0, 1)]), 
  (89, [(59, .getfield 135, 3), (62, .ifCond .eq 21, 3), (65, .aload_n 0, 1), (66, .getfield 148, 3), (69, .ifCond .ne 14, 3), (72, .aload_n 0, 1), (73, .invokevirtual 236, 3), (76, .invokestatic 218, 3), (79, .iload_n 1, 1), (80, .if_icmp .le 7, 3), (83, .iconst 1, 1), (84, .goto 4, 3), (87, .iconst 0, 1), (88, .ireturn, 1)])]
set_option maxRecDepth 40000 in
theorem de_X7_isMatchOver : en_De tb_X7_isMatchOver cX7_isMatchOver := by
  unfold en_De
  decide +kernel
def k_X7_isMatchOver_0 : en_K := (1, ([.inr (.inl 20), .inl (0, 0, 0, 0)], [(0, 0, 22, 1, 0, 0)]), [([.inr (.inl 20), .inl (0, 0, 0, 0), .inl (0, 0, 0, 0)], [(0, 0, 22, 2, 0, 0)]), ([.inr (.inl 20), .inl (1, 1, 0, 0), .inl (109, 109, 0, 0), .inl (0, 0, 0, 0)], [(0, 0, 20, 2, 0, 0), (0, 0, 22, 3, 0, 0)])], [(20, 30)], [20], (0, 0), [])
def u_X7_isMatchOver_0 : List en_U := []
def x_X7_isMatchOver_0 : en_Cx := ((en_KT0, en_TY0, en_om0), en_FTX7, en_PTX7, [(110, true, 13, 0, 0, k_X7_isThrown_0), (110, true, 13, 0, 0, k_X7_isThrown_1)], en_LTX7, en_LLX7, en_TTX7)
def m_X7_isMatchOver_0 : en_Mx := (k_X7_isMatchOver_0, 1, 2, (0, 2), tb_X7_isMatchOver, [])
set_option maxRecDepth 100000 in
theorem ck_X7_isMatchOver_0 : en_all x_X7_isMatchOver_0 m_X7_isMatchOver_0 u_X7_isMatchOver_0 23 = true := by decide +kernel
theorem ct_X7_isMatchOver_0 {l : Launch} (hl : l.stackTraces = false) {cx cy : Int32} : en_Ctr l vwCl en_TY0 (en_Pc cx cy) en_om0 (en_Oc cx cy) en_KT0 yX7_isMatchOver (Cond.code yX7_isMatchOver cX7_isMatchOver 2 (some .boolean) :: en_cw) (en_rm 1 (0, 0)) 0 k_X7_isMatchOver_0 :=
  en_main (X := x_X7_isMatchOver_0) (M := m_X7_isMatchOver_0) en_Pc_ok en_f32_ok en_f64_ok hl (by decide +kernel) ⟨en_FTX7_ok, en_PTX7_ok, en_ac (⟨yX7_isThrown, RX7, cX7_isThrown, 3, (some .boolean), by decide, ct_X7_isThrown_0 hl, fun _ => ⟨gc_RX7_110v, by decide, _, rfl, rfl⟩, fun h => Bool.noConfusion h⟩) (en_ac (⟨yX7_isThrown, RX7, cX7_isThrown, 3, (some .boolean), by decide, ct_X7_isThrown_1 hl, fun _ => ⟨gc_RX7_110v, by decide, _, rfl, rfl⟩, fun h => Bool.noConfusion h⟩) en_an), en_LTX7_ok, en_LLX7_ok, en_TTX7_ok hl, cw256, cw147⟩ de_X7_isMatchOver ck_X7_isMatchOver_0
def k_X7_isMatchOver_1 : en_K := (1, ([.inr (.inl 20), .inl (1, 9, 0, 0), .inl (1, 1, 0, 0)], [(0, 0, 16, 1, 0, 0), (0, 0, 22, 2, 0, 0), (5, 0, 0, 0, 0, 0)]), [([.inr (.inl 20), .inl (0, 0, 0, 0), .inl (1, 9, 0, 0), .inl (1, 1, 0, 0)], [(0, 0, 16, 2, 0, 0), (0, 0, 22, 3, 0, 0), (5, 0, 0, 0, 0, 0)]), ([.inr (.inl 20), .inl (1, 1, 0, 0), .inl (1, 9, 0, 0), .inl (109, 109, 0, 0), .inl (1, 1, 0, 0)], [(0, 0, 16, 2, 0, 0), (0, 0, 20, 3, 0, 0), (0, 0, 22, 4, 0, 0), (5, 0, 0, 0, 0, 0), (6, 4, 0, 0, 0, 0)])], [(20, 30)], [20, 42], (0, 0), [])
def u_X7_isMatchOver_1 : List en_U := []
def x_X7_isMatchOver_1 : en_Cx := ((en_KT0, en_TY0, en_om0), en_FTX7, en_PTX7, [(110, true, 13, 0, 0, k_X7_isThrown_3), (110, true, 13, 0, 0, k_X7_isThrown_4), (218, false, 0, 0, 0, k_J9_abs_0f7a4_0), (236, true, 13, 0, 0, k_X7_upNow_0)], en_LTX7, en_LLX7, en_TTX7)
def m_X7_isMatchOver_1 : en_Mx := (k_X7_isMatchOver_1, 1, 2, (0, 2), tb_X7_isMatchOver, [])
set_option maxRecDepth 100000 in
theorem ck_X7_isMatchOver_1 : en_all x_X7_isMatchOver_1 m_X7_isMatchOver_1 u_X7_isMatchOver_1 42 = true := by decide +kernel
theorem ct_X7_isMatchOver_1 {l : Launch} (hl : l.stackTraces = false) {cx cy : Int32} : en_Ctr l vwCl en_TY0 (en_Pc cx cy) en_om0 (en_Oc cx cy) en_KT0 yX7_isMatchOver (Cond.code yX7_isMatchOver cX7_isMatchOver 2 (some .boolean) :: en_cw) (en_rm 1 (0, 0)) 0 k_X7_isMatchOver_1 :=
  en_main (X := x_X7_isMatchOver_1) (M := m_X7_isMatchOver_1) en_Pc_ok en_f32_ok en_f64_ok hl (by decide +kernel) ⟨en_FTX7_ok, en_PTX7_ok, en_ac (⟨yX7_isThrown, RX7, cX7_isThrown, 3, (some .boolean), by decide, ct_X7_isThrown_3 hl, fun _ => ⟨gc_RX7_110v, by decide, _, rfl, rfl⟩, fun h => Bool.noConfusion h⟩) (en_ac (⟨yX7_isThrown, RX7, cX7_isThrown, 3, (some .boolean), by decide, ct_X7_isThrown_4 hl, fun _ => ⟨gc_RX7_110v, by decide, _, rfl, rfl⟩, fun h => Bool.noConfusion h⟩) (en_ac (⟨yJ9_abs_0f7a4, RJ9, cJ9_abs_0f7a4, 1, (some .int), by decide, ct_J9_abs_0f7a4_0 hl en_Pc_ok _, fun h => Bool.noConfusion h, fun _ => gc_RX7_218s⟩) (en_ac (⟨yX7_upNow, RX7, cX7_upNow, 3, (some .int), by decide, ct_X7_upNow_0 hl, fun _ => ⟨gc_RX7_236v, by decide, _, rfl, rfl⟩, fun h => Bool.noConfusion h⟩) en_an))), en_LTX7_ok, en_LLX7_ok, en_TTX7_ok hl, cw256, cw147⟩ de_X7_isMatchOver ck_X7_isMatchOver_1
