def tb_X6_strokesGiven : en_Tb := [
  (26, [(0, .aload_n 0, 1), (1, .getfield 62, 3), (4, .iconst 1, 1), (5, .if_icmp .ge 5, 3), (8, .iconst 0, 1), (9, .ireturn, 1), (10, .iconst 0, 1), (11, .istore_n 3, 1), (12, .iconst 0, 1), (13, .istore 4, 2), (15, .iload 4, 2), (17, .aload_n 0, 1), (18, .getfield 62, 3), (21, .if_icmp .ge 34, 3), (24, .aload_n 0, 1), (25, .getfield 11, 3)]), 
  (61, [(28, .iload 4, 2), (30, .aaload, 1), (31, .getfield 82, 3), (34, .aload_n 0, 1), (35, .getfield 11, 3), (38, .iload_n 2, 1), (39, .aaload, 1), (40, .getfield 82, 3), (43, .if_icmp .ge 6, 3), (46, .iinc 3 1, 3), (49, .iinc 4 1, 3), (52, .goto (-37), 3), (55, .iload_n 1, 1), (56, .aload_n 0, 1), (57, .getfield 62, 3), (60, .idiv, 1)]), 
  (78, [(61, .iload_n 3, 1), (62, .iload_n 1, 1), (63, .aload_n 0, 1), (64, .getfield 62, 3), (67, .irem, 1), (68, .if_icmp .ge 7, 3), (71, .iconst 1, 1), (72, .goto 4, 3), (75, .iconst 0, 1), (76, .iadd, 1), (77, .ireturn, 1)])]
set_option maxRecDepth 40000 in
theorem de_X6_strokesGiven : en_De tb_X6_strokesGiven cX6_strokesGiven := by
  unfold en_De
  decide +kernel
def k_X6_strokesGiven_0 : en_K := (3, ([.inr (.inl 0), .inl ((-2147483648), 2147483647, 0, 0), .inl (0, 8, 0, 0)], []), [([.inr (.inl 0), .inl ((-2147483648), 2147483647, 0, 0), .inl (0, 8, 0, 0), .inl ((-2147483648), 2147483647, 0, 0)], [])], [], [0, 1, 5], (0, 0), [])
def u_X6_strokesGiven_0 : List en_U := [
  (15, ([.inr (.inl 0), .inl ((-2147483648), 2147483647, 0, 0), .inl (0, 8, 0, 0), .inl (0, 9, 0, 0), .inl ((-2147483648), 2147483647, 0, 0), .inl (1, 9, 0, 0)], [(0, 0, 4, 5, 0, 0)]), [(0, 0), (1, 1), (2, 2), (4, 3), (3, 4)], (0, 0), [((-2), 3)], 22)]
def x_X6_strokesGiven_0 : en_Cx := ((en_KT, en_TY0, en_om0), en_FTX6, en_PTX6, [], en_LTX6, en_LLX6, en_TTX6, en_ACX6)
def m_X6_strokesGiven_0 : en_Mx := (k_X6_strokesGiven_0, 0, 5, (0, 0), tb_X6_strokesGiven, [])
set_option maxRecDepth 100000 in
theorem ck_X6_strokesGiven_0 : en_all x_X6_strokesGiven_0 m_X6_strokesGiven_0 u_X6_strokesGiven_0 21 = true := by decide +kernel
theorem ct_X6_strokesGiven_0 {l : Launch} (hl : l.stackTraces = false) {PP : Int32 → Int32 → Prop} (hPP : en_P0 PP) (Ω : Nat → en_H → va_W → Prop) : en_Ctr l vwCl en_TY0 PP en_om0 Ω en_KT yX6_strokesGiven (Cond.code yX6_strokesGiven cX6_strokesGiven 5 (some .int) :: en_cw) (en_rm 0 (0, 0)) 0 k_X6_strokesGiven_0 :=
  en_main (X := x_X6_strokesGiven_0) (M := m_X6_strokesGiven_0) hPP en_f32_ok en_f64_ok hl (by decide +kernel) ⟨en_FTX6_ok, en_PTX6_ok, en_an, en_LTX6_ok, en_LLX6_ok, en_TTX6_ok hl, ⟨cw256, cw147⟩, en_ACX6_ok⟩ de_X6_strokesGiven ck_X6_strokesGiven_0
def tb_X6_gets : en_Tb := [
  (25, [(0, .aload_n 0, 1), (1, .iload_n 1, 1), (2, .invokevirtual 127, 3), (5, .aload_n 0, 1), (6, .iload_n 2, 1), (7, .invokevirtual 95, 3), (10, .aload_n 0, 1), (11, .aload_n 0, 1), (12, .getfield 18, 3), (15, .iload_n 1, 1), (16, .aaload, 1), (17, .getfield 137, 3), (20, .iload_n 2, 1), (21, .invokevirtual 140, 3), (24, .ireturn, 1)])]
set_option maxRecDepth 40000 in
theorem de_X6_gets : en_De tb_X6_gets cX6_gets := by
  unfold en_De
  decide +kernel
def k_X6_gets_0 : en_K := (3, ([.inr (.inl 0), .inl ((-2147483648), 2147483647, 0, 0), .inl ((-2147483648), 2147483647, 0, 0)], []), [([.inr (.inl 0), .inl (0, 5, 0, 0), .inl (0, 8, 0, 0), .inl ((-2147483648), 2147483647, 0, 0)], [])], [], [0, 1, 2, 5, 7], (2, 12), [3])
def u_X6_gets_0 : List en_U := []
def x_X6_gets_0 : en_Cx := ((en_KT, en_TY0, en_om0), en_FTX6, en_PTX6, [(95, true, 12, 4, 0, k_X6_needHole_0), (127, true, 12, 4, 0, k_X6_needPlayer_0), (140, true, 12, 0, 0, k_X6_strokesGiven_0)], en_LTX6, en_LLX6, en_TTX6, en_ACX6)
def m_X6_gets_0 : en_Mx := (k_X6_gets_0, 1, 3, (0, 0), tb_X6_gets, [])
set_option maxRecDepth 100000 in
theorem ck_X6_gets_0 : en_all x_X6_gets_0 m_X6_gets_0 u_X6_gets_0 18 = true := by decide +kernel
theorem ct_X6_gets_0 {l : Launch} (hl : l.stackTraces = false) {PP : Int32 → Int32 → Prop} (hPP : en_P0 PP) (Ω : Nat → en_H → va_W → Prop) : en_Ctr l vwCl en_TY0 PP en_om0 Ω en_KT yX6_gets (Cond.code yX6_gets cX6_gets 3 (some .int) :: en_cw) (en_rm 1 (2, 12)) 0 k_X6_gets_0 :=
  en_main (X := x_X6_gets_0) (M := m_X6_gets_0) hPP en_f32_ok en_f64_ok hl (by decide +kernel) ⟨en_FTX6_ok, en_PTX6_ok, en_ac (⟨yX6_needHole, RX6, cX6_needHole, 2, none, by decide, ct_X6_needHole_0 hl hPP Ω, fun _ => ⟨gc_RX6_95v, by decide, _, rfl, rfl⟩, fun h => Bool.noConfusion h⟩) (en_ac (⟨yX6_needPlayer, RX6, cX6_needPlayer, 2, none, by decide, ct_X6_needPlayer_0 hl hPP Ω, fun _ => ⟨gc_RX6_127v, by decide, _, rfl, rfl⟩, fun h => Bool.noConfusion h⟩) (en_ac (⟨yX6_strokesGiven, RX6, cX6_strokesGiven, 5, (some .int), by decide, ct_X6_strokesGiven_0 hl hPP Ω, fun _ => ⟨gc_RX6_140v, by decide, _, rfl, rfl⟩, fun h => Bool.noConfusion h⟩) en_an)), en_LTX6_ok, en_LLX6_ok, en_TTX6_ok hl, ⟨cw256, cw147⟩, en_ACX6_ok⟩ de_X6_gets ck_X6_gets_0
def tb_X6_hasIndex : en_Tb := [
  (26, [(0, .iconst 0, 1), (1, .istore_n 2, 1), (2, .iload_n 2, 1), (3, .aload_n 0, 1), (4, .getfield 62, 3), (7, .if_icmp .ge 24, 3), (10, .aload_n 0, 1), (11, .getfield 11, 3), (14, .iload_n 2, 1), (15, .aaload, 1), (16, .getfield 82, 3), (19, .iload_n 1, 1), (20, .if_icmp .ne 5, 3), (23, .iconst 1, 1), (24, .ireturn, 1), (25, .iinc 2 1, 3)]), 
  (33, [(28, .goto (-26), 3), (31, .iconst 0, 1), (32, .ireturn, 1)])]
set_option maxRecDepth 40000 in
theorem de_X6_hasIndex : en_De tb_X6_hasIndex cX6_hasIndex := by
  unfold en_De
  decide +kernel
def k_X6_hasIndex_0 : en_K := (2, ([.inr (.inl 0), .inl ((-2147483648), 2147483647, 0, 0)], []), [([.inr (.inl 0), .inl ((-2147483648), 2147483647, 0, 0), .inl (0, 0, 0, 0)], []), ([.inr (.inl 0), .inl ((-2147483648), 2147483647, 0, 0), .inl (1, 1, 0, 0)], [])], [], [0, 1, 5], (0, 0), [])
def u_X6_hasIndex_0 : List en_U := [
  (2, ([.inr (.inl 0), .inl ((-2147483648), 2147483647, 0, 0), .inl (0, 9, 0, 0)], []), [(0, 0), (1, 1), (2, 2)], (0, 0), [((-2), 2)], 22)]
def x_X6_hasIndex_0 : en_Cx := ((en_KT, en_TY0, en_om0), en_FTX6, en_PTX6, [], en_LTX6, en_LLX6, en_TTX6, en_ACX6)
def m_X6_hasIndex_0 : en_Mx := (k_X6_hasIndex_0, 0, 3, (0, 2), tb_X6_hasIndex, [])
set_option maxRecDepth 100000 in
theorem ck_X6_hasIndex_0 : en_all x_X6_hasIndex_0 m_X6_hasIndex_0 u_X6_hasIndex_0 16 = true := by decide +kernel
theorem ct_X6_hasIndex_0 {l : Launch} (hl : l.stackTraces = false) {PP : Int32 → Int32 → Prop} (hPP : en_P0 PP) (Ω : Nat → en_H → va_W → Prop) : en_Ctr l vwCl en_TY0 PP en_om0 Ω en_KT yX6_hasIndex (Cond.code yX6_hasIndex cX6_hasIndex 3 (some .boolean) :: en_cw) (en_rm 0 (0, 0)) 0 k_X6_hasIndex_0 :=
  en_main (X := x_X6_hasIndex_0) (M := m_X6_hasIndex_0) hPP en_f32_ok en_f64_ok hl (by decide +kernel) ⟨en_FTX6_ok, en_PTX6_ok, en_an, en_LTX6_ok, en_LLX6_ok, en_TTX6_ok hl, ⟨cw256, cw147⟩, en_ACX6_ok⟩ de_X6_hasIndex ck_X6_hasIndex_0
def tb_X6_hole : en_Tb := [
  (28, [(0, .iload_n 1, 1), (1, .iconst 3, 1), (2, .if_icmp .lt 38, 3), (5, .iload_n 1, 1), (6, .iconst 5, 1), (7, .if_icmp .gt 33, 3), (10, .iload_n 2, 1), (11, .iconst 1, 1), (12, .if_icmp .lt 28, 3), (15, .iload_n 2, 1), (16, .bipush 9, 2), (18, .if_icmp .gt 22, 3), (21, .iload_n 3, 1), (22, .iload 4, 2), (24, .invokestatic 45, 3), (27, .ifCond .eq 13, 3)]), 
  (64, [(30, .iload 5, 2), (32, .iload 6, 2), (34, .invokestatic 45, 3), (37, .ifCond .ne 13, 3), (40, .new 49, 3), (43, .dup, 1), (44, .ldc 51, 2), (46, .invokespecial 53, 3), (49, .athrow, 1), (50, .iload_n 3, 1), (51, .iload 5, 2), (53, .if_icmp .ne 20, 3), (56, .iload 4, 2), (58, .iload 6, 2), (60, .if_icmp .ne 13, 3), (63, .new 49, 3)]), 
  (99, [(66, .dup, 1), (67, .ldc 56, 2), (69, .invokespecial 53, 3), (72, .athrow, 1), (73, .aload_n 0, 1), (74, .getfield 58, 3), (77, .ifCond .ne 12, 3), (80, .aload_n 0, 1), (81, .getfield 62, 3), (84, .bipush 9, 2), (86, .if_icmp .lt 13, 3), (89, .new 65, 3), (92, .dup, 1), (93, .ldc 67, 2), (95, .invokespecial 69, 3), (98, .athrow, 1)]), 
  (129, [(99, .aload_n 0, 1), (100, .iload_n 2, 1), (101, .invokevirtual 70, 3), (104, .ifCond .eq 13, 3), (107, .new 74, 3), (110, .dup, 1), (111, .ldc 76, 2), (113, .invokespecial 78, 3), (116, .athrow, 1), (117, .aload_n 0, 1), (118, .getfield 11, 3), (121, .aload_n 0, 1), (122, .getfield 62, 3), (125, .aaload, 1), (126, .astore 7, 2), (128, .aload 7, 2)]), 
  (164, [(130, .iload_n 1, 1), (131, .putfield 79, 3), (134, .aload 7, 2), (136, .iload_n 2, 1), (137, .putfield 82, 3), (140, .aload 7, 2), (142, .iload_n 3, 1), (143, .iload 4, 2), (145, .invokestatic 85, 3), (148, .putfield 89, 3), (151, .aload 7, 2), (153, .iload 5, 2), (155, .iload 6, 2), (157, .invokestatic 85, 3), (160, .putfield 92, 3), (163, .aload_n 0, 1)]), 
  (180, [(164, .dup, 1), (165, .getfield 62, 3), (168, .iconst 1, 1), (169, .iadd, 1), (170, .putfield 62, 3), (173, .aload_n 0, 1), (174, .getfield 62, 3), (177, .iconst 1, 1), (178, .isub, 1), (179, .ireturn, 1)])]
set_option maxRecDepth 40000 in
theorem de_X6_hole : en_De tb_X6_hole cX6_hole := by
  unfold en_De
  decide +kernel
def k_X6_hole_0 : en_K := (7, ([.inr (.inl 0), .inl ((-2147483648), 2147483647, 0, 0), .inl ((-2147483648), 2147483647, 0, 0), .inl ((-2147483648), 2147483647, 0, 0), .inl ((-2147483648), 2147483647, 0, 0), .inl ((-2147483648), 2147483647, 0, 0), .inl ((-2147483648), 2147483647, 0, 0)], []), [([.inr (.inl 0), .inl (3, 5, 0, 0), .inl (1, 9, 0, 0), .inl (0, 29, 0, 0), .inl (0, 19, 0, 0), .inl (0, 29, 0, 0), .inl (0, 19, 0, 0), .inl (0, 8, 0, 0), .inl (0, 0, 0, 0)], [(0, 0, 10, 8, 0, 0)])], [(0, 4), (5, 1), (5, 2), (5, 3), (5, 4)], [0, 1, 5], (1, 6), [0, 1, 2])
def u_X6_hole_0 : List en_U := []
def x_X6_hole_0 : en_Cx := ((en_KT, en_TY0, en_om0), en_FTX6, en_PTX6, [(45, false, 0, 0, 0, k_X6_isCell_0), (70, true, 12, 0, 0, k_X6_hasIndex_0), (85, false, 0, 0, 0, k_X6_cellAt_0)], en_LTX6, en_LLX6, en_TTX6, en_ACX6)
def m_X6_hole_0 : en_Mx := (k_X6_hole_0, 1, 8, (0, 0), tb_X6_hole, [])
set_option maxRecDepth 100000 in
theorem ck_X6_hole_0 : en_all x_X6_hole_0 m_X6_hole_0 u_X6_hole_0 73 = true := by decide +kernel
theorem ct_X6_hole_0 {l : Launch} (hl : l.stackTraces = false) {PP : Int32 → Int32 → Prop} (hPP : en_P0 PP) (Ω : Nat → en_H → va_W → Prop) : en_Ctr l vwCl en_TY0 PP en_om0 Ω en_KT yX6_hole (Cond.code yX6_hole cX6_hole 8 (some .int) :: en_cw) (en_rm 1 (1, 6)) 0 k_X6_hole_0 :=
  en_main (X := x_X6_hole_0) (M := m_X6_hole_0) hPP en_f32_ok en_f64_ok hl (by decide +kernel) ⟨en_FTX6_ok, en_PTX6_ok, en_ac (⟨yX6_isCell, RX6, cX6_isCell, 2, (some .boolean), by decide, ct_X6_isCell_0 hl hPP Ω, fun h => Bool.noConfusion h, fun _ => gc_RX6_45s⟩) (en_ac (⟨yX6_hasIndex, RX6, cX6_hasIndex, 3, (some .boolean), by decide, ct_X6_hasIndex_0 hl hPP Ω, fun _ => ⟨gc_RX6_70v, by decide, _, rfl, rfl⟩, fun h => Bool.noConfusion h⟩) (en_ac (⟨yX6_cellAt, RX6, cX6_cellAt, 2, (some .int), by decide, ct_X6_cellAt_0 hl hPP Ω, fun h => Bool.noConfusion h, fun _ => gc_RX6_85s⟩) en_an)), en_LTX6_ok, en_LLX6_ok, en_TTX6_ok hl, ⟨cw256, cw147⟩, en_ACX6_ok⟩ de_X6_hole ck_X6_hole_0
def tb_X6_holeOn : en_Tb := [
  (9, [(0, .aload_n 0, 1), (1, .invokevirtual 167, 3), (4, .aload_n 0, 1), (5, .getfield 170, 3), (8, .ireturn, 1)])]
set_option maxRecDepth 40000 in
theorem de_X6_holeOn : en_De tb_X6_holeOn cX6_holeOn := by
  unfold en_De
  decide +kernel
def k_X6_holeOn_0 : en_K := (1, ([.inr (.inl 0)], []), [([.inr (.inl 0), .inl (0, 8, 0, 0)], [(0, 0, 13, 1, 0, 0)])], [], [0], (1, 6), [1])
def u_X6_holeOn_0 : List en_U := []
def x_X6_holeOn_0 : en_Cx := ((en_KT, en_TY0, en_om0), en_FTX6, en_PTX6, [(167, true, 12, 4, 0, k_X6_needRound_0)], en_LTX6, en_LLX6, en_TTX6, en_ACX6)
def m_X6_holeOn_0 : en_Mx := (k_X6_holeOn_0, 1, 1, (0, 0), tb_X6_holeOn, [])
set_option maxRecDepth 100000 in
theorem ck_X6_holeOn_0 : en_all x_X6_holeOn_0 m_X6_holeOn_0 u_X6_holeOn_0 8 = true := by decide +kernel
theorem ct_X6_holeOn_0 {l : Launch} (hl : l.stackTraces = false) {PP : Int32 → Int32 → Prop} (hPP : en_P0 PP) (Ω : Nat → en_H → va_W → Prop) : en_Ctr l vwCl en_TY0 PP en_om0 Ω en_KT yX6_holeOn (Cond.code yX6_holeOn cX6_holeOn 1 (some .int) :: en_cw) (en_rm 1 (1, 6)) 0 k_X6_holeOn_0 :=
  en_main (X := x_X6_holeOn_0) (M := m_X6_holeOn_0) hPP en_f32_ok en_f64_ok hl (by decide +kernel) ⟨en_FTX6_ok, en_PTX6_ok, en_ac (⟨yX6_needRound, RX6, cX6_needRound, 1, none, by decide, ct_X6_needRound_0 hl hPP Ω, fun _ => ⟨gc_RX6_167v, by decide, _, rfl, rfl⟩, fun h => Bool.noConfusion h⟩) en_an, en_LTX6_ok, en_LLX6_ok, en_TTX6_ok hl, ⟨cw256, cw147⟩, en_ACX6_ok⟩ de_X6_holeOn ck_X6_holeOn_0
def tb_X6_needPosted : en_Tb := [
  (27, [(0, .aload_n 0, 1), (1, .getfield 18, 3), (4, .iload_n 1, 1), (5, .aaload, 1), (6, .getfield 524, 3), (9, .getfield 533, 3), (12, .ifCond .ne 14, 3), (15, .new 177, 3), (18, .dup, 1), (19, .ldc_w 586, 3), (22, .invokespecial 181, 3), (25, .athrow, 1), (26, .return_, 1)])]
set_option maxRecDepth 40000 in
theorem de_X6_needPosted : en_De tb_X6_needPosted cX6_needPosted := by
  unfold en_De
  decide +kernel
def k_X6_needPosted_0 : en_K := (2, ([.inr (.inl 0), .inl (0, 5, 0, 0)], []), [([.inr (.inl 0), .inl (0, 5, 0, 0)], [])], [], [0, 2, 7, 11], (1, 6), [4])
def u_X6_needPosted_0 : List en_U := []
def x_X6_needPosted_0 : en_Cx := ((en_KT, en_TY0, en_om0), en_FTX6, en_PTX6, [], en_LTX6, en_LLX6, en_TTX6, en_ACX6)
def m_X6_needPosted_0 : en_Mx := (k_X6_needPosted_0, 0, 2, (4, 0), tb_X6_needPosted, [])
set_option maxRecDepth 100000 in
theorem ck_X6_needPosted_0 : en_all x_X6_needPosted_0 m_X6_needPosted_0 u_X6_needPosted_0 11 = true := by decide +kernel
theorem ct_X6_needPosted_0 {l : Launch} (hl : l.stackTraces = false) {PP : Int32 → Int32 → Prop} (hPP : en_P0 PP) (Ω : Nat → en_H → va_W → Prop) : en_Ctr l vwCl en_TY0 PP en_om0 Ω en_KT yX6_needPosted (Cond.code yX6_needPosted cX6_needPosted 2 none :: en_cw) (en_rm 0 (1, 6)) 4 k_X6_needPosted_0 :=
  en_main (X := x_X6_needPosted_0) (M := m_X6_needPosted_0) hPP en_f32_ok en_f64_ok hl (by decide +kernel) ⟨en_FTX6_ok, en_PTX6_ok, en_an, en_LTX6_ok, en_LLX6_ok, en_TTX6_ok hl, ⟨cw256, cw147⟩, en_ACX6_ok⟩ de_X6_needPosted ck_X6_needPosted_0
def tb_X6_index : en_Tb := [
  (23, [(0, .aload_n 0, 1), (1, .iload_n 1, 1), (2, .invokevirtual 127, 3), (5, .aload_n 0, 1), (6, .iload_n 1, 1), (7, .invokevirtual 543, 3), (10, .aload_n 0, 1), (11, .getfield 18, 3), (14, .iload_n 1, 1), (15, .aaload, 1), (16, .getfield 524, 3), (19, .getfield 546, 3), (22, .ireturn, 1)])]
set_option maxRecDepth 40000 in
theorem de_X6_index : en_De tb_X6_index cX6_index := by
  unfold en_De
  decide +kernel
def k_X6_index_0 : en_K := (2, ([.inr (.inl 0), .inl ((-2147483648), 2147483647, 0, 0)], []), [([.inr (.inl 0), .inl (0, 5, 0, 0), .inl ((-2147483648), 2147483647, 0, 0)], [])], [], [0, 2, 7, 11], (2, 12), [3, 4])
def u_X6_index_0 : List en_U := []
def x_X6_index_0 : en_Cx := ((en_KT, en_TY0, en_om0), en_FTX6, en_PTX6, [(127, true, 12, 4, 0, k_X6_needPlayer_0), (543, true, 12, 4, 0, k_X6_needPosted_0)], en_LTX6, en_LLX6, en_TTX6, en_ACX6)
def m_X6_index_0 : en_Mx := (k_X6_index_0, 1, 2, (0, 0), tb_X6_index, [])
set_option maxRecDepth 100000 in
theorem ck_X6_index_0 : en_all x_X6_index_0 m_X6_index_0 u_X6_index_0 16 = true := by decide +kernel
theorem ct_X6_index_0 {l : Launch} (hl : l.stackTraces = false) {PP : Int32 → Int32 → Prop} (hPP : en_P0 PP) (Ω : Nat → en_H → va_W → Prop) : en_Ctr l vwCl en_TY0 PP en_om0 Ω en_KT yX6_index (Cond.code yX6_index cX6_index 2 (some .int) :: en_cw) (en_rm 1 (2, 12)) 0 k_X6_index_0 :=
  en_main (X := x_X6_index_0) (M := m_X6_index_0) hPP en_f32_ok en_f64_ok hl (by decide +kernel) ⟨en_FTX6_ok, en_PTX6_ok, en_ac (⟨yX6_needPlayer, RX6, cX6_needPlayer, 2, none, by decide, ct_X6_needPlayer_0 hl hPP Ω, fun _ => ⟨gc_RX6_127v, by decide, _, rfl, rfl⟩, fun h => Bool.noConfusion h⟩) (en_ac (⟨yX6_needPosted, RX6, cX6_needPosted, 2, none, by decide, ct_X6_needPosted_0 hl hPP Ω, fun _ => ⟨gc_RX6_543v, by decide, _, rfl, rfl⟩, fun h => Bool.noConfusion h⟩) en_an), en_LTX6_ok, en_LLX6_ok, en_TTX6_ok hl, ⟨cw256, cw147⟩, en_ACX6_ok⟩ de_X6_index ck_X6_index_0
def tb_X6_needRanked : en_Tb := [
  (27, [(0, .aload_n 0, 1), (1, .getfield 18, 3), (4, .iload_n 1, 1), (5, .aaload, 1), (6, .getfield 155, 3), (9, .invokevirtual 508, 3), (12, .ifCond .ne 14, 3), (15, .new 177, 3), (18, .dup, 1), (19, .ldc_w 584, 3), (22, .invokespecial 181, 3), (25, .athrow, 1), (26, .return_, 1)])]
set_option maxRecDepth 40000 in
theorem de_X6_needRanked : en_De tb_X6_needRanked cX6_needRanked := by
  unfold en_De
  decide +kernel
def k_X6_needRanked_0 : en_K := (2, ([.inr (.inl 0), .inl (0, 5, 0, 0)], []), [([.inr (.inl 0), .inl (0, 5, 0, 0)], [])], [], [0, 2, 7, 9], (1, 6), [4])
def u_X6_needRanked_0 : List en_U := []
def x_X6_needRanked_0 : en_Cx := ((en_KT, en_TY0, en_om0), en_FTX6, en_PTX6, [(508, true, 7, 0, 0, k_X1_isRanked_0)], en_LTX6, en_LLX6, en_TTX6, en_ACX6)
def m_X6_needRanked_0 : en_Mx := (k_X6_needRanked_0, 1, 2, (4, 0), tb_X6_needRanked, [])
set_option maxRecDepth 100000 in
theorem ck_X6_needRanked_0 : en_all x_X6_needRanked_0 m_X6_needRanked_0 u_X6_needRanked_0 11 = true := by decide +kernel
theorem ct_X6_needRanked_0 {l : Launch} (hl : l.stackTraces = false) {PP : Int32 → Int32 → Prop} (hPP : en_P0 PP) (Ω : Nat → en_H → va_W → Prop) : en_Ctr l vwCl en_TY0 PP en_om0 Ω en_KT yX6_needRanked (Cond.code yX6_needRanked cX6_needRanked 2 none :: en_cw) (en_rm 1 (1, 6)) 4 k_X6_needRanked_0 :=
  en_main (X := x_X6_needRanked_0) (M := m_X6_needRanked_0) hPP en_f32_ok en_f64_ok hl (by decide +kernel) ⟨en_FTX6_ok, en_PTX6_ok, en_ac (⟨yX1_isRanked, RX1, cX1_isRanked, 1, (some .boolean), by decide, ct_X1_isRanked_0 hl hPP Ω, fun _ => ⟨gc_RX6_508v, by decide, _, rfl, rfl⟩, fun h => Bool.noConfusion h⟩) en_an, en_LTX6_ok, en_LLX6_ok, en_TTX6_ok hl, ⟨cw256, cw147⟩, en_ACX6_ok⟩ de_X6_needRanked ck_X6_needRanked_0
def tb_X6_isAhead : en_Tb := [
  (24, [(0, .aload_n 0, 1), (1, .iload_n 1, 1), (2, .invokevirtual 127, 3), (5, .aload_n 0, 1), (6, .iload_n 2, 1), (7, .invokevirtual 127, 3), (10, .aload_n 0, 1), (11, .iload_n 1, 1), (12, .invokevirtual 496, 3), (15, .aload_n 0, 1), (16, .iload_n 2, 1), (17, .invokevirtual 496, 3), (20, .aload_n 0, 1), (21, .iload_n 1, 1), (22, .iload_n 2, 1), (23, .aload_n 0, 1)]), 
  (50, [(24, .getfield 62, 3), (27, .invokevirtual 502, 3), (30, .istore_n 3, 1), (31, .iload_n 3, 1), (32, .ifCond .ne 16, 3), (35, .aload_n 0, 1), (36, .iload_n 1, 1), (37, .iload_n 2, 1), (38, .aload_n 0, 1), (39, .getfield 62, 3), (42, .iconst 2, 1), (43, .idiv, 1), (44, .invokevirtual 502, 3), (47, .istore_n 3, 1), (48, .iload_n 3, 1), (49, .ifCond .ne 16, 3)]), 
  (74, [(52, .aload_n 0, 1), (53, .iload_n 1, 1), (54, .iload_n 2, 1), (55, .aload_n 0, 1), (56, .getfield 62, 3), (59, .iconst 3, 1), (60, .idiv, 1), (61, .invokevirtual 502, 3), (64, .istore_n 3, 1), (65, .iload_n 3, 1), (66, .ifCond .ne 11, 3), (69, .aload_n 0, 1), (70, .iload_n 1, 1), (71, .iload_n 2, 1), (72, .iconst 1, 1), (73, .invokevirtual 502, 3)]), 
  (87, [(76, .istore_n 3, 1), (77, .iload_n 3, 1), (78, .ifCond .ge 7, 3), (81, .iconst 1, 1), (82, .goto 4, 3), (85, .iconst 0, 1), (86, .ireturn, 1)])]
set_option maxRecDepth 40000 in
theorem de_X6_isAhead : en_De tb_X6_isAhead cX6_isAhead := by
  unfold en_De
  decide +kernel
def k_X6_isAhead_0 : en_K := (3, ([.inr (.inl 0), .inl ((-2147483648), 2147483647, 0, 0), .inl ((-2147483648), 2147483647, 0, 0)], []), [([.inr (.inl 0), .inl (0, 5, 0, 0), .inl (0, 5, 0, 0), .inl (0, 0, 0, 0)], []), ([.inr (.inl 0), .inl (0, 5, 0, 0), .inl (0, 5, 0, 0), .inl (1, 1, 0, 0)], [])], [], [0, 2, 7, 9, 10], (4, 24), [3, 4])
def u_X6_isAhead_0 : List en_U := []
def x_X6_isAhead_0 : en_Cx := ((en_KT, en_TY0, en_om0), en_FTX6, en_PTX6, [(127, true, 12, 4, 0, k_X6_needPlayer_0), (496, true, 12, 4, 1, k_X6_needRanked_0), (502, true, 12, 0, 2, k_X6_compareLast_0)], en_LTX6, en_LLX6, en_TTX6, en_ACX6)
def m_X6_isAhead_0 : en_Mx := (k_X6_isAhead_0, 3, 4, (0, 2), tb_X6_isAhead, [])
set_option maxRecDepth 100000 in
theorem ck_X6_isAhead_0 : en_all x_X6_isAhead_0 m_X6_isAhead_0 u_X6_isAhead_0 57 = true := by decide +kernel
theorem ct_X6_isAhead_0 {l : Launch} (hl : l.stackTraces = false) {PP : Int32 → Int32 → Prop} (hPP : en_P0 PP) (Ω : Nat → en_H → va_W → Prop) : en_Ctr l vwCl en_TY0 PP en_om0 Ω en_KT yX6_isAhead (Cond.code yX6_isAhead cX6_isAhead 4 (some .boolean) :: en_cw) (en_rm 3 (4, 24)) 0 k_X6_isAhead_0 :=
  en_main (X := x_X6_isAhead_0) (M := m_X6_isAhead_0) hPP en_f32_ok en_f64_ok hl (by decide +kernel) ⟨en_FTX6_ok, en_PTX6_ok, en_ac (⟨yX6_needPlayer, RX6, cX6_needPlayer, 2, none, by decide, ct_X6_needPlayer_0 hl hPP Ω, fun _ => ⟨gc_RX6_127v, by decide, _, rfl, rfl⟩, fun h => Bool.noConfusion h⟩) (en_ac (⟨yX6_needRanked, RX6, cX6_needRanked, 2, none, by decide, ct_X6_needRanked_0 hl hPP Ω, fun _ => ⟨gc_RX6_496v, by decide, _, rfl, rfl⟩, fun h => Bool.noConfusion h⟩) (en_ac (⟨yX6_compareLast, RX6, cX6_compareLast, 5, (some .int), by decide, ct_X6_compareLast_0 hl hPP Ω, fun _ => ⟨gc_RX6_502v, by decide, _, rfl, rfl⟩, fun h => Bool.noConfusion h⟩) en_an)), en_LTX6_ok, en_LLX6_ok, en_TTX6_ok hl, ⟨cw256, cw147⟩, en_ACX6_ok⟩ de_X6_isAhead ck_X6_isAhead_0
def tb_X6_needMatch : en_Tb := [
  (19, [(0, .aload_n 0, 1), (1, .invokevirtual 196, 3), (4, .ifCond .ne 14, 3), (7, .new 74, 3), (10, .dup, 1), (11, .ldc_w 580, 3), (14, .invokespecial 78, 3), (17, .athrow, 1), (18, .return_, 1)])]
set_option maxRecDepth 40000 in
theorem de_X6_needMatch : en_De tb_X6_needMatch cX6_needMatch := by
  unfold en_De
  decide +kernel
def k_X6_needMatch_0 : en_K := (1, ([.inr (.inl 0)], []), [([.inr (.inl 0)], [])], [], [0], (1, 6), [2])
def u_X6_needMatch_0 : List en_U := []
def x_X6_needMatch_0 : en_Cx := ((en_KT, en_TY0, en_om0), en_FTX6, en_PTX6, [(196, true, 12, 0, 0, k_X6_isMatch_0)], en_LTX6, en_LLX6, en_TTX6, en_ACX6)
def m_X6_needMatch_0 : en_Mx := (k_X6_needMatch_0, 1, 1, (4, 0), tb_X6_needMatch, [])
set_option maxRecDepth 100000 in
theorem ck_X6_needMatch_0 : en_all x_X6_needMatch_0 m_X6_needMatch_0 u_X6_needMatch_0 7 = true := by decide +kernel
theorem ct_X6_needMatch_0 {l : Launch} (hl : l.stackTraces = false) {PP : Int32 → Int32 → Prop} (hPP : en_P0 PP) (Ω : Nat → en_H → va_W → Prop) : en_Ctr l vwCl en_TY0 PP en_om0 Ω en_KT yX6_needMatch (Cond.code yX6_needMatch cX6_needMatch 1 none :: en_cw) (en_rm 1 (1, 6)) 4 k_X6_needMatch_0 :=
  en_main (X := x_X6_needMatch_0) (M := m_X6_needMatch_0) hPP en_f32_ok en_f64_ok hl (by decide +kernel) ⟨en_FTX6_ok, en_PTX6_ok, en_ac (⟨yX6_isMatch, RX6, cX6_isMatch, 1, (some .boolean), by decide, ct_X6_isMatch_0 hl hPP Ω, fun _ => ⟨gc_RX6_196v, by decide, _, rfl, rfl⟩, fun h => Bool.noConfusion h⟩) en_an, en_LTX6_ok, en_LLX6_ok, en_TTX6_ok hl, ⟨cw256, cw147⟩, en_ACX6_ok⟩ de_X6_needMatch ck_X6_needMatch_0
def tb_J9_abs_0f7a4 : en_Tb := [
  (11, [(0, .iload_n 0, 1), (1, .ifCond .ge 8, 3), (4, .iload_n 0, 1), (5, .ineg, 1), (6, .goto 4, 3), (9, .iload_n 0, 1), (10, .ireturn, 1)])]
set_option maxRecDepth 40000 in
theorem de_J9_abs_0f7a4 : en_De tb_J9_abs_0f7a4 cJ9_abs_0f7a4 := by
  unfold en_De
  decide +kernel
def k_J9_abs_0f7a4_0 : en_K := (1, ([.inl ((-2147483648), 2147483647, 0, 0)], []), [([.inl ((-2147483648), 2147483647, 0, 0), .inl ((-2147483648), 2147483647, 0, 0)], [])], [], [], (0, 0), [])
def u_J9_abs_0f7a4_0 : List en_U := []
def x_J9_abs_0f7a4_0 : en_Cx := ((en_KT, en_TY0, en_om0), en_FTJ9, en_PTJ9, [], en_LTJ9, en_LLJ9, en_TTJ9, en_ACJ9)
def m_J9_abs_0f7a4_0 : en_Mx := (k_J9_abs_0f7a4_0, 0, 1, (0, 0), tb_J9_abs_0f7a4, [])
set_option maxRecDepth 100000 in
theorem ck_J9_abs_0f7a4_0 : en_all x_J9_abs_0f7a4_0 m_J9_abs_0f7a4_0 u_J9_abs_0f7a4_0 9 = true := by decide +kernel
theorem ct_J9_abs_0f7a4_0 {l : Launch} (hl : l.stackTraces = false) {PP : Int32 → Int32 → Prop} (hPP : en_P0 PP) (Ω : Nat → en_H → va_W → Prop) : en_Ctr l vwCl en_TY0 PP en_om0 Ω en_KT yJ9_abs_0f7a4 (Cond.code yJ9_abs_0f7a4 cJ9_abs_0f7a4 1 (some .int) :: en_cw) (en_rm 0 (0, 0)) 0 k_J9_abs_0f7a4_0 :=
  en_main (X := x_J9_abs_0f7a4_0) (M := m_J9_abs_0f7a4_0) hPP en_f32_ok en_f64_ok hl (by decide +kernel) ⟨en_FTJ9_ok, en_PTJ9_ok, en_an, en_LTJ9_ok, en_LLJ9_ok, en_TTJ9_ok hl, ⟨cw256, cw147⟩, en_ACJ9_ok⟩ de_J9_abs_0f7a4 ck_J9_abs_0f7a4_0
def tb_X6_isMatchOver : en_Tb := [
  (36, [(0, .aload_n 0, 1), (1, .invokevirtual 427, 3), (4, .aload_n 0, 1), (5, .getfield 132, 3), (8, .ifCond .eq 38, 3), (11, .aload_n 0, 1), (12, .getfield 30, 3), (15, .getfield 393, 3), (18, .ifCond .ne 28, 3), (21, .aload_n 0, 1), (22, .getfield 30, 3), (25, .getfield 396, 3), (28, .invokestatic 430, 3), (31, .aload_n 0, 1), (32, .getfield 62, 3), (35, .aload_n 0, 1)]), 
  (52, [(36, .getfield 30, 3), (39, .getfield 435, 3), (42, .isub, 1), (43, .if_icmp .le 7, 3), (46, .iconst 1, 1), (47, .goto 4, 3), (50, .iconst 0, 1), (51, .ireturn, 1)])]
set_option maxRecDepth 40000 in
theorem de_X6_isMatchOver : en_De tb_X6_isMatchOver cX6_isMatchOver := by
  unfold en_De
  decide +kernel
def k_X6_isMatchOver_0 : en_K := (1, ([.inr (.inl 0)], []), [([.inr (.inl 0), .inl (0, 0, 0, 0)], []), ([.inr (.inl 0), .inl (1, 1, 0, 0)], [])], [], [0, 4], (1, 6), [2])
def u_X6_isMatchOver_0 : List en_U := []
def x_X6_isMatchOver_0 : en_Cx := ((en_KT, en_TY0, en_om0), en_FTX6, en_PTX6, [(427, true, 12, 4, 1, k_X6_needMatch_0), (430, false, 0, 0, 0, k_J9_abs_0f7a4_0)], en_LTX6, en_LLX6, en_TTX6, en_ACX6)
def m_X6_isMatchOver_0 : en_Mx := (k_X6_isMatchOver_0, 2, 1, (0, 2), tb_X6_isMatchOver, [])
set_option maxRecDepth 100000 in
theorem ck_X6_isMatchOver_0 : en_all x_X6_isMatchOver_0 m_X6_isMatchOver_0 u_X6_isMatchOver_0 26 = true := by decide +kernel
theorem ct_X6_isMatchOver_0 {l : Launch} (hl : l.stackTraces = false) {PP : Int32 → Int32 → Prop} (hPP : en_P0 PP) (Ω : Nat → en_H → va_W → Prop) : en_Ctr l vwCl en_TY0 PP en_om0 Ω en_KT yX6_isMatchOver (Cond.code yX6_isMatchOver cX6_isMatchOver 1 (some .boolean) :: en_cw) (en_rm 2 (1, 6)) 0 k_X6_isMatchOver_0 :=
  en_main (X := x_X6_isMatchOver_0) (M := m_X6_isMatchOver_0) hPP en_f32_ok en_f64_ok hl (by decide +kernel) ⟨en_FTX6_ok, en_PTX6_ok, en_ac (⟨yX6_needMatch, RX6, cX6_needMatch, 1, none, by decide, ct_X6_needMatch_0 hl hPP Ω, fun _ => ⟨gc_RX6_427v, by decide, _, rfl, rfl⟩, fun h => Bool.noConfusion h⟩) (en_ac (⟨yJ9_abs_0f7a4, RJ9, cJ9_abs_0f7a4, 1, (some .int), by decide, ct_J9_abs_0f7a4_0 hl hPP Ω, fun h => Bool.noConfusion h, fun _ => gc_RX6_430s⟩) en_an), en_LTX6_ok, en_LLX6_ok, en_TTX6_ok hl, ⟨cw256, cw147⟩, en_ACX6_ok⟩ de_X6_isMatchOver ck_X6_isMatchOver_0
