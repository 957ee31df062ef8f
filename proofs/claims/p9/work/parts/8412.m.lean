def tb_X7_isCup : en_Tb := [
  (22, [(0, .iload_n 1, 1), (1, .aload_n 0, 1), (2, .invokevirtual 95, 3), (5, .if_icmp .ne 15, 3), (8, .iload_n 2, 1), (9, .aload_n 0, 1), (10, .invokevirtual 99, 3), (13, .if_icmp .ne 7, 3), (16, .iconst 1, 1), (17, .goto 4, 3), (20, .iconst 0, 1), (21, .ireturn, 1)])]
set_option maxRecDepth 40000 in
theorem de_X7_isCup : en_De tb_X7_isCup cX7_isCup := by
  unfold en_De
  decide +kernel
def k_X7_isCup_0 : en_K := (3, ([.inr (.inl 20), .inl ((-2), 29, 0, 0), .inl ((-2), 19, 0, 0), .inl (0, 8, 0, 0)], [(0, 0, 25, 3, 0, 0), (5, 0, 0, 0, 0, 0)]), [([.inr (.inl 20), .inl ((-2), 29, 0, 0), .inl ((-2), 19, 0, 0), .inl (0, 0, 0, 0), .inl (0, 8, 0, 0)], [(0, 0, 25, 4, 0, 0), (5, 0, 0, 0, 0, 0)]), ([.inr (.inl 20), .inl (0, 29, 0, 0), .inl (0, 19, 0, 0), .inl (1, 1, 0, 0), .inl (0, 8, 0, 0)], [(0, 0, 25, 4, 0, 0), (5, 0, 0, 0, 0, 0)])], [], [20, 21, 22], (0, 0), [])
def u_X7_isCup_0 : List en_U := []
def x_X7_isCup_0 : en_Cx := ((en_KT0, en_TY0, en_om0), en_FTX7, en_PTX7, [(95, true, 13, 0, 0, k_X7_cupX_2), (99, true, 13, 0, 0, k_X7_cupY_2)], en_LTX7, en_LLX7, en_TTX7)
def m_X7_isCup_0 : en_Mx := (k_X7_isCup_0, 1, 3, (0, 2), tb_X7_isCup, [])
set_option maxRecDepth 100000 in
theorem ck_X7_isCup_0 : en_all x_X7_isCup_0 m_X7_isCup_0 u_X7_isCup_0 14 = true := by decide +kernel
theorem ct_X7_isCup_0 {l : Launch} (hl : l.stackTraces = false) {cx cy : Int32} : en_Ctr l vwCl en_TY0 (en_Pc cx cy) en_om0 (en_Oc cx cy) en_KT0 yX7_isCup (Cond.code yX7_isCup cX7_isCup 3 (some .boolean) :: en_cw) (en_rm 1 (0, 0)) 0 k_X7_isCup_0 :=
  en_main (X := x_X7_isCup_0) (M := m_X7_isCup_0) en_Pc_ok en_f32_ok en_f64_ok hl (by decide +kernel) ⟨en_FTX7_ok, en_PTX7_ok, en_ac (⟨yX7_cupX, RX7, cX7_cupX, 1, (some .int), by decide, ct_X7_cupX_2 hl, fun _ => ⟨gc_RX7_95v, by decide, _, rfl, rfl⟩, fun h => Bool.noConfusion h⟩) (en_ac (⟨yX7_cupY, RX7, cX7_cupY, 1, (some .int), by decide, ct_X7_cupY_2 hl, fun _ => ⟨gc_RX7_99v, by decide, _, rfl, rfl⟩, fun h => Bool.noConfusion h⟩) en_an), en_LTX7_ok, en_LLX7_ok, en_TTX7_ok hl, cw256, cw147⟩ de_X7_isCup ck_X7_isCup_0
def tb_X7_isOver : en_Tb := [
  (20, [(0, .aload_n 0, 1), (1, .getfield 114, 3), (4, .ifCond .eq 14, 3), (7, .aload_n 0, 1), (8, .getfield 135, 3), (11, .ifCond .ne 7, 3), (14, .iconst 1, 1), (15, .goto 4, 3), (18, .iconst 0, 1), (19, .ireturn, 1)])]
set_option maxRecDepth 40000 in
theorem de_X7_isOver : en_De tb_X7_isOver cX7_isOver := by
  unfold en_De
  decide +kernel
def k_X7_isOver_0 : en_K := (1, ([.inr (.inl 20)], []), [([.inr (.inl 20), .inl (0, 0, 0, 0)], []), ([.inr (.inl 20), .inl (1, 1, 0, 0), .inl (0, 0, 0, 0)], [(0, 0, 22, 2, 0, 0)])], [], [20], (0, 0), [])
def u_X7_isOver_0 : List en_U := []
def x_X7_isOver_0 : en_Cx := ((en_KT0, en_TY0, en_om0), en_FTX7, en_PTX7, [], en_LTX7, en_LLX7, en_TTX7)
def m_X7_isOver_0 : en_Mx := (k_X7_isOver_0, 0, 1, (0, 2), tb_X7_isOver, [])
set_option maxRecDepth 100000 in
theorem ck_X7_isOver_0 : en_all x_X7_isOver_0 m_X7_isOver_0 u_X7_isOver_0 12 = true := by decide +kernel
theorem ct_X7_isOver_0 {l : Launch} (hl : l.stackTraces = false) {cx cy : Int32} : en_Ctr l vwCl en_TY0 (en_Pc cx cy) en_om0 (en_Oc cx cy) en_KT0 yX7_isOver (Cond.code yX7_isOver cX7_isOver 1 (some .boolean) :: en_cw) (en_rm 0 (0, 0)) 0 k_X7_isOver_0 :=
  en_main (X := x_X7_isOver_0) (M := m_X7_isOver_0) en_Pc_ok en_f32_ok en_f64_ok hl (by decide +kernel) ⟨en_FTX7_ok, en_PTX7_ok, en_an, en_LTX7_ok, en_LLX7_ok, en_TTX7_ok hl, cw256, cw147⟩ de_X7_isOver ck_X7_isOver_0
def tb_X7_net : en_Tb := [
  (21, [(0, .aload_n 0, 1), (1, .getfield 35, 3), (4, .iload_n 1, 1), (5, .aaload, 1), (6, .iload_n 2, 1), (7, .iaload, 1), (8, .aload_n 0, 1), (9, .aload_n 0, 1), (10, .getfield 19, 3), (13, .iload_n 1, 1), (14, .iaload, 1), (15, .iload_n 2, 1), (16, .invokevirtual 138, 3), (19, .isub, 1), (20, .ireturn, 1)])]
set_option maxRecDepth 40000 in
theorem de_X7_net : en_De tb_X7_net cX7_net := by
  unfold en_De
  decide +kernel
def k_X7_net_0 : en_K := (3, ([.inr (.inl 20), .inl (0, 5, 0, 0), .inl (0, 8, 0, 0), .inl (1, 9, 0, 0)], [(0, 0, 16, 3, 0, 0)]), [([.inr (.inl 20), .inl (0, 5, 0, 0), .inl (0, 8, 0, 0), .inl ((-2147483648), 2147483647, 0, 0), .inl (1, 9, 0, 0)], [(0, 0, 16, 4, 0, 0)])], [], [20, 21, 22, 25, 33, 34], (0, 0), [])
def u_X7_net_0 : List en_U := []
def x_X7_net_0 : en_Cx := ((en_KT0, en_TY0, en_om0), en_FTX7, en_PTX7, [(138, true, 13, 0, 0, k_X7_strokesFor_0)], en_LTX7, en_LLX7, en_TTX7)
def m_X7_net_0 : en_Mx := (k_X7_net_0, 1, 3, (0, 0), tb_X7_net, [])
set_option maxRecDepth 100000 in
theorem ck_X7_net_0 : en_all x_X7_net_0 m_X7_net_0 u_X7_net_0 18 = true := by decide +kernel
theorem ct_X7_net_0 {l : Launch} (hl : l.stackTraces = false) {cx cy : Int32} : en_Ctr l vwCl en_TY0 (en_Pc cx cy) en_om0 (en_Oc cx cy) en_KT0 yX7_net (Cond.code yX7_net cX7_net 3 (some .int) :: en_cw) (en_rm 1 (0, 0)) 0 k_X7_net_0 :=
  en_main (X := x_X7_net_0) (M := m_X7_net_0) en_Pc_ok en_f32_ok en_f64_ok hl (by decide +kernel) ⟨en_FTX7_ok, en_PTX7_ok, en_ac (⟨yX7_strokesFor, RX7, cX7_strokesFor, 5, (some .int), by decide, ct_X7_strokesFor_0 hl, fun _ => ⟨gc_RX7_138v, by decide, _, rfl, rfl⟩, fun h => Bool.noConfusion h⟩) en_an, en_LTX7_ok, en_LLX7_ok, en_TTX7_ok hl, cw256, cw147⟩ de_X7_net ck_X7_net_0
def tb_X7_parPlay : en_Tb := [
  (28, [(0, .aload_n 0, 1), (1, .aload_n 0, 1), (2, .iload_n 1, 1), (3, .invokevirtual 132, 3), (6, .iconst 1, 1), (7, .invokevirtual 110, 3), (10, .ifCond .ne 23, 3), (13, .aload_n 0, 1), (14, .aload_n 0, 1), (15, .invokevirtual 248, 3), (18, .ifCond .ne 7, 3), (21, .iconst 1, 1), (22, .goto 4, 3), (25, .iconst 0, 1), (26, .iconst 2, 1), (27, .invokevirtual 110, 3)]), 
  (54, [(30, .ifCond .eq 5, 3), (33, .iconst 0, 1), (34, .ireturn, 1), (35, .iconst 0, 1), (36, .istore_n 2, 1), (37, .iconst 0, 1), (38, .istore_n 3, 1), (39, .iload_n 3, 1), (40, .aload_n 0, 1), (41, .getfield 86, 3), (44, .if_icmp .ge 44, 3), (47, .iload_n 2, 1), (48, .aload_n 0, 1), (49, .getfield 35, 3), (52, .iload_n 1, 1), (53, .aaload, 1)]), 
  (78, [(54, .iload_n 3, 1), (55, .iaload, 1), (56, .ifCond .ne 7, 3), (59, .iconst (-1), 1), (60, .goto 20, 3), (63, .aload_n 0, 1), (64, .getfield 11, 3), (67, .iload_n 3, 1), (68, .aaload, 1), (69, .iconst 0, 1), (70, .iaload, 1), (71, .aload_n 0, 1), (72, .iload_n 1, 1), (73, .iload_n 3, 1), (74, .invokevirtual 258, 3), (77, .invokestatic 264, 3)]), 
  (90, [(80, .iadd, 1), (81, .istore_n 2, 1), (82, .iinc 3 1, 3), (85, .goto (-46), 3), (88, .iload_n 2, 1), (89, .ireturn, 1)])]
set_option maxRecDepth 40000 in
theorem de_X7_parPlay : en_De tb_X7_parPlay cX7_parPlay := by
  unfold en_De
  decide +kernel
def k_X7_parPlay_0 : en_K := (2, ([.inr (.inl 20), .inl ((-2147483648), 2147483647, 0, 0), .inl (0, 0, 0, 0)], [(0, 0, 22, 2, 0, 0)]), [([.inr (.inl 20), .inl ((-2147483648), 2147483647, 0, 0), .inl ((-2147483648), 2147483647, 0, 0), .inl (0, 0, 0, 0)], [(0, 0, 22, 3, 0, 0)])], [(20, 30)], [20, 21, 22, 25, 33, 34], (0, 0), [])
def u_X7_parPlay_0 : List en_U := [
  (39, ([.inr (.inl 20), .inl (0, 5, 0, 0), .inl (0, 9, 0, 0), .inl ((-2147483648), 2147483647, 0, 0), .inl (1, 6, 0, 0), .inl (0, 0, 0, 0)], [(0, 0, 17, 4, 0, 0), (0, 0, 22, 5, 0, 0)]), [(0, 0), (1, 1), (3, 2), (2, 3)], (0, 0), [((-2), 2)], 22)]
def x_X7_parPlay_0 : en_Cx := ((en_KT0, en_TY0, en_om0), en_FTX7, en_PTX7, [(110, true, 13, 0, 0, k_X7_isThrown_0), (110, true, 13, 0, 0, k_X7_isThrown_1), (110, true, 13, 0, 0, k_X7_isThrown_2), (110, true, 13, 0, 0, k_X7_isThrown_8), (132, true, 13, 0, 1, k_X7_isNoPlayer_0), (248, true, 13, 0, 0, k_X7_isOver_0), (258, true, 13, 0, 1, k_X7_net_0), (264, false, 0, 0, 0, k_J6_compare_7cf53_0)], en_LTX7, en_LLX7, en_TTX7)
def m_X7_parPlay_0 : en_Mx := (k_X7_parPlay_0, 2, 4, (0, 0), tb_X7_parPlay, [])
set_option maxRecDepth 100000 in
theorem ck_X7_parPlay_0 : en_all x_X7_parPlay_0 m_X7_parPlay_0 u_X7_parPlay_0 30 = true := by decide +kernel
theorem ct_X7_parPlay_0 {l : Launch} (hl : l.stackTraces = false) {cx cy : Int32} : en_Ctr l vwCl en_TY0 (en_Pc cx cy) en_om0 (en_Oc cx cy) en_KT0 yX7_parPlay (Cond.code yX7_parPlay cX7_parPlay 4 (some .int) :: en_cw) (en_rm 2 (0, 0)) 0 k_X7_parPlay_0 :=
  en_main (X := x_X7_parPlay_0) (M := m_X7_parPlay_0) en_Pc_ok en_f32_ok en_f64_ok hl (by decide +kernel) ⟨en_FTX7_ok, en_PTX7_ok, en_ac (⟨yX7_isThrown, RX7, cX7_isThrown, 3, (some .boolean), by decide, ct_X7_isThrown_0 hl, fun _ => ⟨gc_RX7_110v, by decide, _, rfl, rfl⟩, fun h => Bool.noConfusion h⟩) (en_ac (⟨yX7_isThrown, RX7, cX7_isThrown, 3, (some .boolean), by decide, ct_X7_isThrown_1 hl, fun _ => ⟨gc_RX7_110v, by decide, _, rfl, rfl⟩, fun h => Bool.noConfusion h⟩) (en_ac (⟨yX7_isThrown, RX7, cX7_isThrown, 3, (some .boolean), by decide, ct_X7_isThrown_2 hl, fun _ => ⟨gc_RX7_110v, by decide, _, rfl, rfl⟩, fun h => Bool.noConfusion h⟩) (en_ac (⟨yX7_isThrown, RX7, cX7_isThrown, 3, (some .boolean), by decide, ct_X7_isThrown_8 hl, fun _ => ⟨gc_RX7_110v, by decide, _, rfl, rfl⟩, fun h => Bool.noConfusion h⟩) (en_ac (⟨yX7_isNoPlayer, RX7, cX7_isNoPlayer, 2, (some .boolean), by decide, ct_X7_isNoPlayer_0 hl, fun _ => ⟨gc_RX7_132v, by decide, _, rfl, rfl⟩, fun h => Bool.noConfusion h⟩) (en_ac (⟨yX7_isOver, RX7, cX7_isOver, 1, (some .boolean), by decide, ct_X7_isOver_0 hl, fun _ => ⟨gc_RX7_248v, by decide, _, rfl, rfl⟩, fun h => Bool.noConfusion h⟩) (en_ac (⟨yX7_net, RX7, cX7_net, 3, (some .int), by decide, ct_X7_net_0 hl, fun _ => ⟨gc_RX7_258v, by decide, _, rfl, rfl⟩, fun h => Bool.noConfusion h⟩) (en_ac (⟨yJ6_compare_7cf53, RJ6, cJ6_compare_7cf53, 2, (some .int), by decide, ct_J6_compare_7cf53_0 hl en_Pc_ok _, fun h => Bool.noConfusion h, fun _ => gc_RX7_264s⟩) en_an))))))), en_LTX7_ok, en_LLX7_ok, en_TTX7_ok hl, cw256, cw147⟩ de_X7_parPlay ck_X7_parPlay_0
def k_X7_isOver_1 : en_K := (1, ([.inr (.inl 20)], [(5, 0, 0, 0, 0, 0)]), [([.inr (.inl 20), .inl (0, 0, 0, 0)], [(5, 0, 0, 0, 0, 0)]), ([.inr (.inl 20), .inl (1, 1, 0, 0), .inl (0, 0, 0, 0)], [(0, 0, 22, 2, 0, 0), (5, 0, 0, 0, 0, 0)])], [], [20], (0, 0), [])
def u_X7_isOver_1 : List en_U := []
def x_X7_isOver_1 : en_Cx := ((en_KT0, en_TY0, en_om0), en_FTX7, en_PTX7, [], en_LTX7, en_LLX7, en_TTX7)
def m_X7_isOver_1 : en_Mx := (k_X7_isOver_1, 0, 1, (0, 2), tb_X7_isOver, [])
set_option maxRecDepth 100000 in
theorem ck_X7_isOver_1 : en_all x_X7_isOver_1 m_X7_isOver_1 u_X7_isOver_1 12 = true := by decide +kernel
theorem ct_X7_isOver_1 {l : Launch} (hl : l.stackTraces = false) {cx cy : Int32} : en_Ctr l vwCl en_TY0 (en_Pc cx cy) en_om0 (en_Oc cx cy) en_KT0 yX7_isOver (Cond.code yX7_isOver cX7_isOver 1 (some .boolean) :: en_cw) (en_rm 0 (0, 0)) 0 k_X7_isOver_1 :=
  en_main (X := x_X7_isOver_1) (M := m_X7_isOver_1) en_Pc_ok en_f32_ok en_f64_ok hl (by decide +kernel) ⟨en_FTX7_ok, en_PTX7_ok, en_an, en_LTX7_ok, en_LLX7_ok, en_TTX7_ok hl, cw256, cw147⟩ de_X7_isOver ck_X7_isOver_1
def k_X7_strokesFor_3 : en_K := (3, ([.inr (.inl 20), .inl (0, 36, 0, 0), .inl (0, 8, 0, 0), .inl (1, 9, 0, 0)], [(0, 0, 16, 3, 0, 0), (5, 0, 0, 0, 0, 0)]), [([.inr (.inl 20), .inl (0, 36, 0, 0), .inl (0, 8, 0, 0), .inl (0, 37, 0, 0), .inl (1, 9, 0, 0)], [(0, 0, 16, 4, 0, 0), (5, 0, 0, 0, 0, 0)])], [], [20, 21, 22], (0, 0), [])
def u_X7_strokesFor_3 : List en_U := [
  (5, ([.inr (.inl 20), .inl (0, 36, 0, 0), .inl (0, 8, 0, 0), .inl (0, 9, 0, 0), .inl ((-2147483648), 2147483647, 0, 0), .inl (1, 9, 0, 0)], [(0, 0, 16, 5, 0, 0), (5, 0, 0, 0, 0, 0)]), [(0, 0), (1, 1), (2, 2), (4, 3), (3, 4)], (0, 0), [((-2), 3)], 22)]
def x_X7_strokesFor_3 : en_Cx := ((en_KT0, en_TY0, en_om0), en_FTX7, en_PTX7, [], en_LTX7, en_LLX7, en_TTX7)
def m_X7_strokesFor_3 : en_Mx := (k_X7_strokesFor_3, 0, 5, (0, 0), tb_X7_strokesFor, [])
set_option maxRecDepth 100000 in
theorem ck_X7_strokesFor_3 : en_all x_X7_strokesFor_3 m_X7_strokesFor_3 u_X7_strokesFor_3 27 = true := by decide +kernel
theorem ct_X7_strokesFor_3 {l : Launch} (hl : l.stackTraces = false) {cx cy : Int32} : en_Ctr l vwCl en_TY0 (en_Pc cx cy) en_om0 (en_Oc cx cy) en_KT0 yX7_strokesFor (Cond.code yX7_strokesFor cX7_strokesFor 5 (some .int) :: en_cw) (en_rm 0 (0, 0)) 0 k_X7_strokesFor_3 :=
  en_main (X := x_X7_strokesFor_3) (M := m_X7_strokesFor_3) en_Pc_ok en_f32_ok en_f64_ok hl (by decide +kernel) ⟨en_FTX7_ok, en_PTX7_ok, en_an, en_LTX7_ok, en_LLX7_ok, en_TTX7_ok hl, cw256, cw147⟩ de_X7_strokesFor ck_X7_strokesFor_3
def k_X7_net_1 : en_K := (3, ([.inr (.inl 20), .inl (0, 5, 0, 0), .inl (0, 8, 0, 0), .inl (1, 9, 0, 0)], [(0, 0, 16, 3, 0, 0), (5, 0, 0, 0, 0, 0)]), [([.inr (.inl 20), .inl (0, 5, 0, 0), .inl (0, 8, 0, 0), .inl ((-2147483648), 2147483647, 0, 0), .inl (1, 9, 0, 0)], [(0, 0, 16, 4, 0, 0), (5, 0, 0, 0, 0, 0)])], [], [20, 21, 22, 25, 33, 34], (0, 0), [])
def u_X7_net_1 : List en_U := []
def x_X7_net_1 : en_Cx := ((en_KT0, en_TY0, en_om0), en_FTX7, en_PTX7, [(138, true, 13, 0, 0, k_X7_strokesFor_3)], en_LTX7, en_LLX7, en_TTX7)
def m_X7_net_1 : en_Mx := (k_X7_net_1, 1, 3, (0, 0), tb_X7_net, [])
set_option maxRecDepth 100000 in
theorem ck_X7_net_1 : en_all x_X7_net_1 m_X7_net_1 u_X7_net_1 18 = true := by decide +kernel
theorem ct_X7_net_1 {l : Launch} (hl : l.stackTraces = false) {cx cy : Int32} : en_Ctr l vwCl en_TY0 (en_Pc cx cy) en_om0 (en_Oc cx cy) en_KT0 yX7_net (Cond.code yX7_net cX7_net 3 (some .int) :: en_cw) (en_rm 1 (0, 0)) 0 k_X7_net_1 :=
  en_main (X := x_X7_net_1) (M := m_X7_net_1) en_Pc_ok en_f32_ok en_f64_ok hl (by decide +kernel) ⟨en_FTX7_ok, en_PTX7_ok, en_ac (⟨yX7_strokesFor, RX7, cX7_strokesFor, 5, (some .int), by decide, ct_X7_strokesFor_3 hl, fun _ => ⟨gc_RX7_138v, by decide, _, rfl, rfl⟩, fun h => Bool.noConfusion h⟩) en_an, en_LTX7_ok, en_LLX7_ok, en_TTX7_ok hl, cw256, cw147⟩ de_X7_net ck_X7_net_1
def k_X7_parPlay_1 : en_K := (2, ([.inr (.inl 20), .inl ((-2147483648), 2147483647, 0, 0), .inl (1, 9, 0, 0), .inl (1, 1, 0, 0)], [(0, 0, 16, 2, 0, 0), (0, 0, 22, 3, 0, 0), (5, 0, 0, 0, 0, 0)]), [([.inr (.inl 20), .inl ((-2147483648), 2147483647, 0, 0), .inl ((-2147483648), 2147483647, 0, 0), .inl (1, 9, 0, 0)], [(0, 0, 16, 3, 0, 0), (5, 0, 0, 0, 0, 0)])], [(20, 30)], [20, 21, 22, 25, 33, 34], (0, 0), [])
def u_X7_parPlay_1 : List en_U := [
  (39, ([.inr (.inl 20), .inl (0, 5, 0, 0), .inl (0, 9, 0, 0), .inl ((-2147483648), 2147483647, 0, 0), .inl (1, 9, 0, 0), .inl (1, 6, 0, 0), .inl (0, 0, 0, 0)], [(0, 0, 16, 4, 0, 0), (0, 0, 17, 5, 0, 0), (0, 0, 22, 6, 0, 0), (5, 0, 0, 0, 0, 0)]), [(0, 0), (1, 1), (3, 2), (2, 3)], (0, 0), [((-2), 2)], 22)]
def x_X7_parPlay_1 : en_Cx := ((en_KT0, en_TY0, en_om0), en_FTX7, en_PTX7, [(110, true, 13, 0, 0, k_X7_isThrown_11), (110, true, 13, 0, 0, k_X7_isThrown_3), (110, true, 13, 0, 0, k_X7_isThrown_4), (110, true, 13, 0, 0, k_X7_isThrown_5), (132, true, 13, 0, 1, k_X7_isNoPlayer_1), (248, true, 13, 0, 0, k_X7_isOver_1), (258, true, 13, 0, 1, k_X7_net_1), (264, false, 0, 0, 0, k_J6_compare_7cf53_0)], en_LTX7, en_LLX7, en_TTX7)
def m_X7_parPlay_1 : en_Mx := (k_X7_parPlay_1, 2, 4, (0, 0), tb_X7_parPlay, [])
set_option maxRecDepth 100000 in
theorem ck_X7_parPlay_1 : en_all x_X7_parPlay_1 m_X7_parPlay_1 u_X7_parPlay_1 30 = true := by decide +kernel
theorem ct_X7_parPlay_1 {l : Launch} (hl : l.stackTraces = false) {cx cy : Int32} : en_Ctr l vwCl en_TY0 (en_Pc cx cy) en_om0 (en_Oc cx cy) en_KT0 yX7_parPlay (Cond.code yX7_parPlay cX7_parPlay 4 (some .int) :: en_cw) (en_rm 2 (0, 0)) 0 k_X7_parPlay_1 :=
  en_main (X := x_X7_parPlay_1) (M := m_X7_parPlay_1) en_Pc_ok en_f32_ok en_f64_ok hl (by decide +kernel) ⟨en_FTX7_ok, en_PTX7_ok, en_ac (⟨yX7_isThrown, RX7, cX7_isThrown, 3, (some .boolean), by decide, ct_X7_isThrown_11 hl, fun _ => ⟨gc_RX7_110v, by decide, _, rfl, rfl⟩, fun h => Bool.noConfusion h⟩) (en_ac (⟨yX7_isThrown, RX7, cX7_isThrown, 3, (some .boolean), by decide, ct_X7_isThrown_3 hl, fun _ => ⟨gc_RX7_110v, by decide, _, rfl, rfl⟩, fun h => Bool.noConfusion h⟩) (en_ac (⟨yX7_isThrown, RX7, cX7_isThrown, 3, (some .boolean), by decide, ct_X7_isThrown_4 hl, fun _ => ⟨gc_RX7_110v, by decide, _, rfl, rfl⟩, fun h => Bool.noConfusion h⟩) (en_ac (⟨yX7_isThrown, RX7, cX7_isThrown, 3, (some .boolean), by decide, ct_X7_isThrown_5 hl, fun _ => ⟨gc_RX7_110v, by decide, _, rfl, rfl⟩, fun h => Bool.noConfusion h⟩) (en_ac (⟨yX7_isNoPlayer, RX7, cX7_isNoPlayer, 2, (some .boolean), by decide, ct_X7_isNoPlayer_1 hl, fun _ => ⟨gc_RX7_132v, by decide, _, rfl, rfl⟩, fun h => Bool.noConfusion h⟩) (en_ac (⟨yX7_isOver, RX7, cX7_isOver, 1, (some .boolean), by decide, ct_X7_isOver_1 hl, fun _ => ⟨gc_RX7_248v, by decide, _, rfl, rfl⟩, fun h => Bool.noConfusion h⟩) (en_ac (⟨yX7_net, RX7, cX7_net, 3, (some .int), by decide, ct_X7_net_1 hl, fun _ => ⟨gc_RX7_258v, by decide, _, rfl, rfl⟩, fun h => Bool.noConfusion h⟩) (en_ac (⟨yJ6_compare_7cf53, RJ6, cJ6_compare_7cf53, 2, (some .int), by decide, ct_J6_compare_7cf53_0 hl en_Pc_ok _, fun h => Bool.noConfusion h, fun _ => gc_RX7_264s⟩) en_an))))))), en_LTX7_ok, en_LLX7_ok, en_TTX7_ok hl, cw256, cw147⟩ de_X7_parPlay ck_X7_parPlay_1
def tb_X7_penalties : en_Tb := [
  (22, [(0, .aload_n 0, 1), (1, .iload_n 1, 1), (2, .invokevirtual 245, 3), (5, .ifCond .eq 7, 3), (8, .iconst 0, 1), (9, .goto 12, 3), (12, .aload_n 0, 1), (13, .getfield 23, 3), (16, .iload_n 1, 1), (17, .aaload, 1), (18, .bipush 8, 2), (20, .iaload, 1), (21, .ireturn, 1)])]
set_option maxRecDepth 40000 in
theorem de_X7_penalties : en_De tb_X7_penalties cX7_penalties := by
  unfold en_De
  decide +kernel
def k_X7_penalties_0 : en_K := (2, ([.inr (.inl 20), .inl ((-2147483648), 2147483647, 0, 0), .inl (0, 0, 0, 0)], [(0, 0, 22, 2, 0, 0)]), [([.inr (.inl 20), .inl ((-2147483648), 2147483647, 0, 0), .inl ((-2147483648), 2147483647, 0, 0)], [])], [(20, 30)], [20, 26, 27], (0, 0), [])
def u_X7_penalties_0 : List en_U := []
def x_X7_penalties_0 : en_Cx := ((en_KT0, en_TY0, en_om0), en_FTX7, en_PTX7, [(245, true, 13, 0, 2, k_X7_isNone_0)], en_LTX7, en_LLX7, en_TTX7)
def m_X7_penalties_0 : en_Mx := (k_X7_penalties_0, 3, 2, (0, 0), tb_X7_penalties, [])
set_option maxRecDepth 100000 in
theorem ck_X7_penalties_0 : en_all x_X7_penalties_0 m_X7_penalties_0 u_X7_penalties_0 14 = true := by decide +kernel
theorem ct_X7_penalties_0 {l : Launch} (hl : l.stackTraces = false) {cx cy : Int32} : en_Ctr l vwCl en_TY0 (en_Pc cx cy) en_om0 (en_Oc cx cy) en_KT0 yX7_penalties (Cond.code yX7_penalties cX7_penalties 2 (some .int) :: en_cw) (en_rm 3 (0, 0)) 0 k_X7_penalties_0 :=
  en_main (X := x_X7_penalties_0) (M := m_X7_penalties_0) en_Pc_ok en_f32_ok en_f64_ok hl (by decide +kernel) ⟨en_FTX7_ok, en_PTX7_ok, en_ac (⟨yX7_isNone, RX7, cX7_isNone, 2, (some .boolean), by decide, ct_X7_isNone_0 hl, fun _ => ⟨gc_RX7_245v, by decide, _, rfl, rfl⟩, fun h => Bool.noConfusion h⟩) en_an, en_LTX7_ok, en_LLX7_ok, en_TTX7_ok hl, cw256, cw147⟩ de_X7_penalties ck_X7_penalties_0
def k_X7_penalties_1 : en_K := (2, ([.inr (.inl 20), .inl ((-2147483648), 2147483647, 0, 0), .inl (1, 1, 0, 0)], [(0, 0, 22, 2, 0, 0), (5, 0, 0, 0, 0, 0)]), [([.inr (.inl 20), .inl ((-2147483648), 2147483647, 0, 0), .inl ((-2147483648), 2147483647, 0, 0), .inl (1, 1, 0, 0)], [(0, 0, 22, 3, 0, 0), (5, 0, 0, 0, 0, 0)])], [(20, 30)], [20, 26, 27], (0, 0), [])
def u_X7_penalties_1 : List en_U := []
def x_X7_penalties_1 : en_Cx := ((en_KT0, en_TY0, en_om0), en_FTX7, en_PTX7, [(245, true, 13, 0, 2, k_X7_isNone_1)], en_LTX7, en_LLX7, en_TTX7)
def m_X7_penalties_1 : en_Mx := (k_X7_penalties_1, 3, 2, (0, 0), tb_X7_penalties, [])
set_option maxRecDepth 100000 in
theorem ck_X7_penalties_1 : en_all x_X7_penalties_1 m_X7_penalties_1 u_X7_penalties_1 14 = true := by decide +kernel
theorem ct_X7_penalties_1 {l : Launch} (hl : l.stackTraces = false) {cx cy : Int32} : en_Ctr l vwCl en_TY0 (en_Pc cx cy) en_om0 (en_Oc cx cy) en_KT0 yX7_penalties (Cond.code yX7_penalties cX7_penalties 2 (some .int) :: en_cw) (en_rm 3 (0, 0)) 0 k_X7_penalties_1 :=
  en_main (X := x_X7_penalties_1) (M := m_X7_penalties_1) en_Pc_ok en_f32_ok en_f64_ok hl (by decide +kernel) ⟨en_FTX7_ok, en_PTX7_ok, en_ac (⟨yX7_isNone, RX7, cX7_isNone, 2, (some .boolean), by decide, ct_X7_isNone_1 hl, fun _ => ⟨gc_RX7_245v, by decide, _, rfl, rfl⟩, fun h => Bool.noConfusion h⟩) en_an, en_LTX7_ok, en_LLX7_ok, en_TTX7_ok hl, cw256, cw147⟩ de_X7_penalties ck_X7_penalties_1
def tb_X7_penaltyShare : en_Tb := [
  (23, [(0, .aload_n 0, 1), (1, .aload_n 0, 1), (2, .iload_n 1, 1), (3, .invokevirtual 132, 3), (6, .iconst 1, 1), (7, .invokevirtual 110, 3), (10, .ifCond .eq 5, 3), (13, .fconst 0, 1), (14, .freturn, 1), (15, .iconst 0, 1), (16, .istore_n 2, 1), (17, .iconst 0, 1), (18, .istore_n 3, 1), (19, .iconst 0, 1), (20, .istore 4, 2), (22, .iload 4, 2)]), 
  (51, [(24, .aload_n 0, 1), (25, .getfield 151, 3), (28, .if_icmp .ge 49, 3), (31, .iload_n 2, 1), (32, .aload_n 0, 1), (33, .getfield 29, 3), (36, .iload_n 1, 1), (37, .aaload, 1), (38, .iload 4, 2), (40, .iaload, 1), (41, .ifCond .le 15, 3), (44, .aload_n 0, 1), (45, .getfield 32, 3), (48, .iload_n 1, 1), (49, .aaload, 1), (50, .iload 4, 2)]), 
  (75, [(52, .iaload, 1), (53, .goto 4, 3), (56, .iconst 0, 1), (57, .iadd, 1), (58, .istore_n 2, 1), (59, .iload_n 3, 1), (60, .aload_n 0, 1), (61, .getfield 29, 3), (64, .iload_n 1, 1), (65, .aaload, 1), (66, .iload 4, 2), (68, .iaload, 1), (69, .iadd, 1), (70, .istore_n 3, 1), (71, .iinc 4 1, 3), (74, .goto (-52), 3)]), 
  (103, [(77, .aload_n 0, 1), (78, .iload_n 3, 1), (79, .ifCond .ne 7, 3), (82, .iconst 1, 1), (83, .goto 4, 3), (86, .iconst 0, 1), (87, .iconst 2, 1), (88, .invokevirtual 110, 3), (91, .ifCond .eq 7, 3), (94, .fconst 0, 1), (95, .goto 8, 3), (98, .iload_n 2, 1), (99, .i2f, 1), (100, .iload_n 3, 1), (101, .i2f, 1), (102, .fdiv, 1)]), 
  (104, [(103, .freturn, 1)])]
set_option maxRecDepth 40000 in
theorem de_X7_penaltyShare : en_De tb_X7_penaltyShare cX7_penaltyShare := by
  unfold en_De
  decide +kernel
def k_X7_penaltyShare_0 : en_K := (2, ([.inr (.inl 20), .inl ((-2147483648), 2147483647, 0, 0)], []), [([.inr (.inl 20), .inl ((-2147483648), 2147483647, 0, 0), .inr (.inr 1)], [])], [(20, 30)], [20, 29, 30, 31, 32], (0, 0), [])
def u_X7_penaltyShare_0 : List en_U := [
  (22, ([.inr (.inl 20), .inl (0, 5, 0, 0), .inl (0, 9, 0, 0), .inl ((-2147483648), 2147483647, 0, 0), .inl ((-2147483648), 2147483647, 0, 0), .inl (1, 6, 0, 0)], [(0, 0, 17, 5, 0, 0)]), [(0, 0), (1, 1), (4, 2), (3, 3), (2, 4)], (0, 0), [((-2), 2)], 22)]
def x_X7_penaltyShare_0 : en_Cx := ((en_KT0, en_TY0, en_om0), en_FTX7, en_PTX7, [(110, true, 13, 0, 0, k_X7_isThrown_0), (110, true, 13, 0, 0, k_X7_isThrown_1), (110, true, 13, 0, 0, k_X7_isThrown_2), (110, true, 13, 0, 0, k_X7_isThrown_8), (132, true, 13, 0, 1, k_X7_isNoPlayer_0)], en_LTX7, en_LLX7, en_TTX7)
def m_X7_penaltyShare_0 : en_Mx := (k_X7_penaltyShare_0, 2, 5, (2, 0), tb_X7_penaltyShare, [])
set_option maxRecDepth 100000 in
theorem ck_X7_penaltyShare_0 : en_all x_X7_penaltyShare_0 m_X7_penaltyShare_0 u_X7_penaltyShare_0 35 = true := by decide +kernel
theorem ct_X7_penaltyShare_0 {l : Launch} (hl : l.stackTraces = false) {cx cy : Int32} : en_Ctr l vwCl en_TY0 (en_Pc cx cy) en_om0 (en_Oc cx cy) en_KT0 yX7_penaltyShare (Cond.code yX7_penaltyShare cX7_penaltyShare 5 (some .float) :: en_cw) (en_rm 2 (0, 0)) 2 k_X7_penaltyShare_0 :=
  en_main (X := x_X7_penaltyShare_0) (M := m_X7_penaltyShare_0) en_Pc_ok en_f32_ok en_f64_ok hl (by decide +kernel) ⟨en_FTX7_ok, en_PTX7_ok, en_ac (⟨yX7_isThrown, RX7, cX7_isThrown, 3, (some .boolean), by decide, ct_X7_isThrown_0 hl, fun _ => ⟨gc_RX7_110v, by decide, _, rfl, rfl⟩, fun h => Bool.noConfusion h⟩) (en_ac (⟨yX7_isThrown, RX7, cX7_isThrown, 3, (some .boolean), by decide, ct_X7_isThrown_1 hl, fun _ => ⟨gc_RX7_110v, by decide, _, rfl, rfl⟩, fun h => Bool.noConfusion h⟩) (en_ac (⟨yX7_isThrown, RX7, cX7_isThrown, 3, (some .boolean), by decide, ct_X7_isThrown_2 hl, fun _ => ⟨gc_RX7_110v, by decide, _, rfl, rfl⟩, fun h => Bool.noConfusion h⟩) (en_ac (⟨yX7_isThrown, RX7, cX7_isThrown, 3, (some .boolean), by decide, ct_X7_isThrown_8 hl, fun _ => ⟨gc_RX7_110v, by decide, _, rfl, rfl⟩, fun h => Bool.noConfusion h⟩) (en_ac (⟨yX7_isNoPlayer, RX7, cX7_isNoPlayer, 2, (some .boolean), by decide, ct_X7_isNoPlayer_0 hl, fun _ => ⟨gc_RX7_132v, by decide, _, rfl, rfl⟩, fun h => Bool.noConfusion h⟩) en_an)))), en_LTX7_ok, en_LLX7_ok, en_TTX7_ok hl, cw256, cw147⟩ de_X7_penaltyShare ck_X7_penaltyShare_0
def k_X7_penaltyShare_1 : en_K := (2, ([.inr (.inl 20), .inl ((-2147483648), 2147483647, 0, 0)], [(5, 0, 0, 0, 0, 0)]), [([.inr (.inl 20), .inl ((-2147483648), 2147483647, 0, 0), .inr (.inr 1)], [(5, 0, 0, 0, 0, 0)])], [(20, 30)], [20, 29, 30, 31, 32], (0, 0), [])
def u_X7_penaltyShare_1 : List en_U := [
  (22, ([.inr (.inl 20), .inl (0, 5, 0, 0), .inl (0, 9, 0, 0), .inl ((-2147483648), 2147483647, 0, 0), .inl ((-2147483648), 2147483647, 0, 0), .inl (1, 6, 0, 0)], [(0, 0, 17, 5, 0, 0), (5, 0, 0, 0, 0, 0)]), [(0, 0), (1, 1), (4, 2), (3, 3), (2, 4)], (0, 0), [((-2), 2)], 22)]
def x_X7_penaltyShare_1 : en_Cx := ((en_KT0, en_TY0, en_om0), en_FTX7, en_PTX7, [(110, true, 13, 0, 0, k_X7_isThrown_11), (110, true, 13, 0, 0, k_X7_isThrown_3), (110, true, 13, 0, 0, k_X7_isThrown_4), (110, true, 13, 0, 0, k_X7_isThrown_5), (132, true, 13, 0, 1, k_X7_isNoPlayer_1)], en_LTX7, en_LLX7, en_TTX7)
def m_X7_penaltyShare_1 : en_Mx := (k_X7_penaltyShare_1, 2, 5, (2, 0), tb_X7_penaltyShare, [])
set_option maxRecDepth 100000 in
theorem ck_X7_penaltyShare_1 : en_all x_X7_penaltyShare_1 m_X7_penaltyShare_1 u_X7_penaltyShare_1 35 = true := by decide +kernel
theorem ct_X7_penaltyShare_1 {l : Launch} (hl : l.stackTraces = false) {cx cy : Int32} : en_Ctr l vwCl en_TY0 (en_Pc cx cy) en_om0 (en_Oc cx cy) en_KT0 yX7_penaltyShare (Cond.code yX7_penaltyShare cX7_penaltyShare 5 (some .float) :: en_cw) (en_rm 2 (0, 0)) 2 k_X7_penaltyShare_1 :=
  en_main (X := x_X7_penaltyShare_1) (M := m_X7_penaltyShare_1) en_Pc_ok en_f32_ok en_f64_ok hl (by decide +kernel) ⟨en_FTX7_ok, en_PTX7_ok, en_ac (⟨yX7_isThrown, RX7, cX7_isThrown, 3, (some .boolean), by decide, ct_X7_isThrown_11 hl, fun _ => ⟨gc_RX7_110v, by decide, _, rfl, rfl⟩, fun h => Bool.noConfusion h⟩) (en_ac (⟨yX7_isThrown, RX7, cX7_isThrown, 3, (some .boolean), by decide, ct_X7_isThrown_3 hl, fun _ => ⟨gc_RX7_110v, by decide, _, rfl, rfl⟩, fun h => Bool.noConfusion h⟩) (en_ac (⟨yX7_isThrown, RX7, cX7_isThrown, 3, (some .boolean), by decide, ct_X7_isThrown_4 hl, fun _ => ⟨gc_RX7_110v, by decide, _, rfl, rfl⟩, fun h => Bool.noConfusion h⟩) (en_ac (⟨yX7_isThrown, RX7, cX7_isThrown, 3, (some .boolean), by decide, ct_X7_isThrown_5 hl, fun _ => ⟨gc_RX7_110v, by decide, _, rfl, rfl⟩, fun h => Bool.noConfusion h⟩) (en_ac (⟨yX7_isNoPlayer, RX7, cX7_isNoPlayer, 2, (some .boolean), by decide, ct_X7_isNoPlayer_1 hl, fun _ => ⟨gc_RX7_132v, by decide, _, rfl, rfl⟩, fun h => Bool.noConfusion h⟩) en_an)))), en_LTX7_ok, en_LLX7_ok, en_TTX7_ok hl, cw256, cw147⟩ de_X7_penaltyShare ck_X7_penaltyShare_1
def tb_X7_pickUp : en_Tb := [
  (28, [(0, .aload_n 0, 1), (1, .aload_n 0, 1), (2, .iload_n 1, 1), (3, .invokevirtual 132, 3), (6, .iconst 1, 1), (7, .invokevirtual 110, 3), (10, .ifCond .ne 36, 3), (13, .aload_n 0, 1), (14, .aload_n 0, 1), (15, .getfield 135, 3), (18, .ifCond .ne 7, 3), (21, .iconst 1, 1), (22, .goto 4, 3), (25, .iconst 0, 1), (26, .iconst 2, 1), (27, .invokevirtual 110, 3)]), 
  (58, [(30, .ifCond .ne 16, 3), (33, .aload_n 0, 1), (34, .aload_n 0, 1), (35, .iload_n 1, 1), (36, .invokevirtual 163, 3), (39, .iconst 3, 1), (40, .invokevirtual 110, 3), (43, .ifCond .eq 5, 3), (46, .iconst 0, 1), (47, .ireturn, 1), (48, .aload_n 0, 1), (49, .iconst (-1), 1), (50, .putfield 160, 3), (53, .aload_n 0, 1), (54, .getfield 23, 3), (57, .iload_n 1, 1)]), 
  (68, [(58, .aaload, 1), (59, .iconst 0, 1), (60, .bipush 117, 2), (62, .iastore, 1), (63, .aload_n 0, 1), (64, .invokevirtual 169, 3), (67, .ireturn, 1)])]
set_option maxRecDepth 40000 in
theorem de_X7_pickUp : en_De tb_X7_pickUp cX7_pickUp := by
  unfold en_De
  decide +kernel
def k_X7_pickUp_0 : en_K := (2, ([.inr (.inl 20), .inl ((-2147483648), 2147483647, 0, 0), .inl (0, 0, 0, 0)], [(0, 0, 22, 2, 0, 0)]), [([.inr (.inl 20), .inl ((-2147483648), 2147483647, 0, 0), .inl (0, 0, 0, 0), .inl (0, 0, 0, 0)], [(0, 0, 22, 3, 0, 0)])], [(20, 30)], [20], (0, 0), [])
def u_X7_pickUp_0 : List en_U := []
def x_X7_pickUp_0 : en_Cx := ((en_KT0, en_TY0, en_om0), en_FTX7, en_PTX7, [(110, true, 13, 0, 0, k_X7_isThrown_0), (110, true, 13, 0, 0, k_X7_isThrown_1), (110, true, 13, 0, 0, k_X7_isThrown_2), (132, true, 13, 0, 1, k_X7_isNoPlayer_0)], en_LTX7, en_LLX7, en_TTX7)
def m_X7_pickUp_0 : en_Mx := (k_X7_pickUp_0, 2, 2, (0, 0), tb_X7_pickUp, [])
set_option maxRecDepth 100000 in
theorem ck_X7_pickUp_0 : en_all x_X7_pickUp_0 m_X7_pickUp_0 u_X7_pickUp_0 21 = true := by decide +kernel
theorem ct_X7_pickUp_0 {l : Launch} (hl : l.stackTraces = false) {cx cy : Int32} : en_Ctr l vwCl en_TY0 (en_Pc cx cy) en_om0 (en_Oc cx cy) en_KT0 yX7_pickUp (Cond.code yX7_pickUp cX7_pickUp 2 (some .int) :: en_cw) (en_rm 2 (0, 0)) 0 k_X7_pickUp_0 :=
  en_main (X := x_X7_pickUp_0) (M := m_X7_pickUp_0) en_Pc_ok en_f32_ok en_f64_ok hl (by decide +kernel) ⟨en_FTX7_ok, en_PTX7_ok, en_ac (⟨yX7_isThrown, RX7, cX7_isThrown, 3, (some .boolean), by decide, ct_X7_isThrown_0 hl, fun _ => ⟨gc_RX7_110v, by decide, _, rfl, rfl⟩, fun h => Bool.noConfusion h⟩) (en_ac (⟨yX7_isThrown, RX7, cX7_isThrown, 3, (some .boolean), by decide, ct_X7_isThrown_1 hl, fun _ => ⟨gc_RX7_110v, by decide, _, rfl, rfl⟩, fun h => Bool.noConfusion h⟩) (en_ac (⟨yX7_isThrown, RX7, cX7_isThrown, 3, (some .boolean), by decide, ct_X7_isThrown_2 hl, fun _ => ⟨gc_RX7_110v, by decide, _, rfl, rfl⟩, fun h => Bool.noConfusion h⟩) (en_ac (⟨yX7_isNoPlayer, RX7, cX7_isNoPlayer, 2, (some .boolean), by decide, ct_X7_isNoPlayer_0 hl, fun _ => ⟨gc_RX7_132v, by decide, _, rfl, rfl⟩, fun h => Bool.noConfusion h⟩) en_an))), en_LTX7_ok, en_LLX7_ok, en_TTX7_ok hl, cw256, cw147⟩ de_X7_pickUp ck_X7_pickUp_0
def k_X7_pickUp_1 : en_K := (2, ([.inr (.inl 20), .inl ((-2147483648), 2147483647, 0, 0), .inl (1, 1, 0, 0)], [(0, 0, 22, 2, 0, 0), (5, 0, 0, 0, 0, 0)]), [([.inr (.inl 20), .inl ((-2147483648), 2147483647, 0, 0), .inl ((-2147483648), 2147483647, 0, 0), .inl (1, 1, 0, 0)], [(0, 0, 22, 3, 0, 0), (5, 0, 0, 0, 0, 0)])], [(20, 28), (20, 30), (27, 0)], [20, 26, 27], (0, 0), [])
def u_X7_pickUp_1 : List en_U := []
def x_X7_pickUp_1 : en_Cx := ((en_KT0, en_TY0, en_om0), en_FTX7, en_PTX7, [(110, true, 13, 0, 0, k_X7_isThrown_3), (110, true, 13, 0, 0, k_X7_isThrown_4), (110, true, 13, 0, 0, k_X7_isThrown_5), (110, true, 13, 0, 0, k_X7_isThrown_6), (110, true, 13, 0, 0, k_X7_isThrown_7), (132, true, 13, 0, 1, k_X7_isNoPlayer_1), (163, true, 13, 0, 0, k_X7_isDone_0), (169, true, 13, 0, 1, k_X7_notDone_0)], en_LTX7, en_LLX7, en_TTX7)
def m_X7_pickUp_1 : en_Mx := (k_X7_pickUp_1, 2, 2, (0, 0), tb_X7_pickUp, [])
set_option maxRecDepth 100000 in
theorem ck_X7_pickUp_1 : en_all x_X7_pickUp_1 m_X7_pickUp_1 u_X7_pickUp_1 38 = true := by decide +kernel
theorem ct_X7_pickUp_1 {l : Launch} (hl : l.stackTraces = false) {cx cy : Int32} : en_Ctr l vwCl en_TY0 (en_Pc cx cy) en_om0 (en_Oc cx cy) en_KT0 yX7_pickUp (Cond.code yX7_pickUp cX7_pickUp 2 (some .int) :: en_cw) (en_rm 2 (0, 0)) 0 k_X7_pickUp_1 :=
  en_main (X := x_X7_pickUp_1) (M := m_X7_pickUp_1) en_Pc_ok en_f32_ok en_f64_ok hl (by decide +kernel) ⟨en_FTX7_ok, en_PTX7_ok, en_ac (⟨yX7_isThrown, RX7, cX7_isThrown, 3, (some .boolean), by decide, ct_X7_isThrown_3 hl, fun _ => ⟨gc_RX7_110v, by decide, _, rfl, rfl⟩, fun h => Bool.noConfusion h⟩) (en_ac (⟨yX7_isThrown, RX7, cX7_isThrown, 3, (some .boolean), by decide, ct_X7_isThrown_4 hl, fun _ => ⟨gc_RX7_110v, by decide, _, rfl, rfl⟩, fun h => Bool.noConfusion h⟩) (en_ac (⟨yX7_isThrown, RX7, cX7_isThrown, 3, (some .boolean), by decide, ct_X7_isThrown_5 hl, fun _ => ⟨gc_RX7_110v, by decide, _, rfl, rfl⟩, fun h => Bool.noConfusion h⟩) (en_ac (⟨yX7_isThrown, RX7, cX7_isThrown, 3, (some .boolean), by decide, ct_X7_isThrown_6 hl, fun _ => ⟨gc_RX7_110v, by decide, _, rfl, rfl⟩, fun h => Bool.noConfusion h⟩) (en_ac (⟨yX7_isThrown, RX7, cX7_isThrown, 3, (some .boolean), by decide, ct_X7_isThrown_7 hl, fun _ => ⟨gc_RX7_110v, by decide, _, rfl, rfl⟩, fun h => Bool.noConfusion h⟩) (en_ac (⟨yX7_isNoPlayer, RX7, cX7_isNoPlayer, 2, (some .boolean), by decide, ct_X7_isNoPlayer_1 hl, fun _ => ⟨gc_RX7_132v, by decide, _, rfl, rfl⟩, fun h => Bool.noConfusion h⟩) (en_ac (⟨yX7_isDone, RX7, cX7_isDone, 2, (some .boolean), by decide, ct_X7_isDone_0 hl, fun _ => ⟨gc_RX7_163v, by decide, _, rfl, rfl⟩, fun h => Bool.noConfusion h⟩) (en_ac (⟨yX7_notDone, RX7, cX7_notDone, 3, (some .int), by decide, ct_X7_notDone_0 hl, fun _ => ⟨gc_RX7_169v, by decide, _, rfl, rfl⟩, fun h => Bool.noConfusion h⟩) en_an))))))), en_LTX7_ok, en_LLX7_ok, en_TTX7_ok hl, cw256, cw147⟩ de_X7_pickUp ck_X7_pickUp_1
