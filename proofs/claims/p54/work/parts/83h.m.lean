def tb_X3_pointByRisingDistances : en_Tb := [
  (24, [(0, .iconst 0, 1), (1, .istore_n 2, 1), (2, .iload_n 2, 1), (3, .sipush 1202, 3), (6, .if_icmp .gt 23, 3), (9, .aload_n 0, 1), (10, .iload_n 1, 1), (11, .iload_n 2, 1), (12, .invokevirtual 63, 3), (15, .istore_n 3, 1), (16, .iload_n 3, 1), (17, .iconst (-1), 1), (18, .if_icmp .eq 5, 3), (21, .iload_n 3, 1), (22, .ireturn, 1), (23, .iinc 2 1, 3)]), 
  (31, [(26, .goto (-24), 3), (29, .iconst (-1), 1), (30, .ireturn, 1)])]
set_option maxRecDepth 40000 in
theorem de_X3_pointByRisingDistances : en_De tb_X3_pointByRisingDistances cX3_pointByRisingDistances := by
  unfold en_De
  decide +kernel
def k_X3_pointByRisingDistances_0 : en_K := (2, ([.inr (.inl 5), .inl ((-2147483648), 2147483647, 0, 0)], []), [([.inr (.inl 5), .inl ((-2147483648), 2147483647, 0, 0), .inl ((-2147483648), 2147483647, 0, 0)], []), ([.inr (.inl 5), .inl ((-2147483648), 2147483647, 0, 0), .inl ((-1), (-1), 0, 0)], [])], [], [5, 6], (0, 0), [])
def u_X3_pointByRisingDistances_0 : List en_U := [
  (2, ([.inr (.inl 5), .inl ((-2147483648), 2147483647, 0, 0), .inl (0, 1203, 0, 0)], []), [(0, 0), (1, 1), (2, 2)], (0, 0), [((-2), 2)], 2410)]
def x_X3_pointByRisingDistances_0 : en_Cx := ((en_KT, en_TY0, en_om0), en_FTX3, en_PTX3, [(63, true, 9, 0, 4, k_X3_pointAtDistance_0)], en_LTX3, en_LLX3, en_TTX3, en_ACX3)
def m_X3_pointByRisingDistances_0 : en_Mx := (k_X3_pointByRisingDistances_0, 5, 4, (0, 0), tb_X3_pointByRisingDistances, [])
set_option maxRecDepth 100000 in
theorem ck_X3_pointByRisingDistances_0 : en_all x_X3_pointByRisingDistances_0 m_X3_pointByRisingDistances_0 u_X3_pointByRisingDistances_0 16 = true := by decide +kernel
theorem ct_X3_pointByRisingDistances_0 {l : Launch} (hl : l.stackTraces = false) {PP : Int32 → Int32 → Prop} (hPP : en_P0 PP) (Ω : Nat → en_H → va_W → Prop) : en_Ctr l vwCl en_TY0 PP en_om0 Ω en_KT yX3_pointByRisingDistances (Cond.code yX3_pointByRisingDistances cX3_pointByRisingDistances 4 (some .int) :: en_cw) (en_rm 5 (0, 0)) 0 k_X3_pointByRisingDistances_0 :=
  en_main (X := x_X3_pointByRisingDistances_0) (M := m_X3_pointByRisingDistances_0) hPP en_f32_ok en_f64_ok hl (by decide +kernel) ⟨en_FTX3_ok, en_PTX3_ok, en_ac (⟨yX3_pointAtDistance, RX3, cX3_pointAtDistance, 8, (some .int), by decide, ct_X3_pointAtDistance_0 hl hPP Ω, fun _ => ⟨gc_RX3_63v, by decide, _, rfl, rfl⟩, fun h => Bool.noConfusion h⟩) en_an, en_LTX3_ok, en_LLX3_ok, en_TTX3_ok hl, ⟨cw256, cw147⟩, en_ACX3_ok⟩ de_X3_pointByRisingDistances ck_X3_pointByRisingDistances_0
def tb_X6_isPointNearest : en_Tb := [
  (28, [(0, .aload_n 0, 1), (1, .getfield 11, 3), (4, .aload_n 0, 1), (5, .getfield 170, 3), (8, .aaload, 1), (9, .astore_n 2, 1), (10, .aload_n 0, 1), (11, .getfield 132, 3), (14, .ifCond .eq 30, 3), (17, .aload_n 0, 1), (18, .aload_n 1, 1), (19, .invokevirtual 310, 3), (22, .ifCond .eq 22, 3), (25, .aload_n 2, 1), (26, .aload_n 1, 1), (27, .getfield 211, 3)]), 
  (50, [(30, .invokevirtual 316, 3), (33, .aload_n 2, 1), (34, .aload_n 1, 1), (35, .getfield 211, 3), (38, .invokevirtual 601, 3), (41, .if_icmp .ne 7, 3), (44, .iconst 1, 1), (45, .goto 4, 3), (48, .iconst 0, 1), (49, .ireturn, 1)])]
set_option maxRecDepth 40000 in
theorem de_X6_isPointNearest : en_De tb_X6_isPointNearest cX6_isPointNearest := by
  unfold en_De
  decide +kernel
def k_X6_isPointNearest_0 : en_K := (2, ([.inr (.inl 0), .inr (.inl 8)], []), [([.inr (.inl 0), .inr (.inl 8), .inl (0, 0, 0, 0)], []), ([.inr (.inl 0), .inr (.inl 8), .inl (1, 1, 0, 0)], [])], [], [0, 1, 5, 6, 8], (0, 0), [])
def u_X6_isPointNearest_0 : List en_U := []
def x_X6_isPointNearest_0 : en_Cx := ((en_KT, en_TY0, en_om0), en_FTX6, en_PTX6, [(310, true, 12, 0, 1, k_X6_isOnFreeKind_0), (316, true, 9, 0, 3, k_X3_nearestPoint_0), (601, true, 9, 0, 5, k_X3_pointByRisingDistances_0)], en_LTX6, en_LLX6, en_TTX6, en_ACX6)
def m_X6_isPointNearest_0 : en_Mx := (k_X6_isPointNearest_0, 6, 3, (0, 2), tb_X6_isPointNearest, [])
set_option maxRecDepth 100000 in
theorem ck_X6_isPointNearest_0 : en_all x_X6_isPointNearest_0 m_X6_isPointNearest_0 u_X6_isPointNearest_0 28 = true := by decide +kernel
theorem ct_X6_isPointNearest_0 {l : Launch} (hl : l.stackTraces = false) {PP : Int32 → Int32 → Prop} (hPP : en_P0 PP) (Ω : Nat → en_H → va_W → Prop) : en_Ctr l vwCl en_TY0 PP en_om0 Ω en_KT yX6_isPointNearest (Cond.code yX6_isPointNearest cX6_isPointNearest 3 (some .boolean) :: en_cw) (en_rm 6 (0, 0)) 0 k_X6_isPointNearest_0 :=
  en_main (X := x_X6_isPointNearest_0) (M := m_X6_isPointNearest_0) hPP en_f32_ok en_f64_ok hl (by decide +kernel) ⟨en_FTX6_ok, en_PTX6_ok, en_ac (⟨yX6_isOnFreeKind, RX6, cX6_isOnFreeKind, 3, (some .boolean), by decide, ct_X6_isOnFreeKind_0 hl hPP Ω, fun _ => ⟨gc_RX6_310v, by decide, _, rfl, rfl⟩, fun h => Bool.noConfusion h⟩) (en_ac (⟨yX3_nearestPoint, RX3, cX3_nearestPoint, 6, (some .int), by decide, ct_X3_nearestPoint_0 hl hPP Ω, fun _ => ⟨gc_RX6_316v, by decide, _, rfl, rfl⟩, fun h => Bool.noConfusion h⟩) (en_ac (⟨yX3_pointByRisingDistances, RX3, cX3_pointByRisingDistances, 4, (some .int), by decide, ct_X3_pointByRisingDistances_0 hl hPP Ω, fun _ => ⟨gc_RX6_601v, by decide, _, rfl, rfl⟩, fun h => Bool.noConfusion h⟩) en_an)), en_LTX6_ok, en_LLX6_ok, en_TTX6_ok hl, ⟨cw256, cw147⟩, en_ACX6_ok⟩ de_X6_isPointNearest ck_X6_isPointNearest_0
def tb_X6_isRoundOver : en_Tb := [
  (20, [(0, .aload_n 0, 1), (1, .getfield 58, 3), (4, .ifCond .eq 14, 3), (7, .aload_n 0, 1), (8, .getfield 132, 3), (11, .ifCond .ne 7, 3), (14, .iconst 1, 1), (15, .goto 4, 3), (18, .iconst 0, 1), (19, .ireturn, 1)])]
set_option maxRecDepth 40000 in
theorem de_X6_isRoundOver : en_De tb_X6_isRoundOver cX6_isRoundOver := by
  unfold en_De
  decide +kernel
def k_X6_isRoundOver_0 : en_K := (1, ([.inr (.inl 0)], []), [([.inr (.inl 0), .inl (0, 0, 0, 0)], []), ([.inr (.inl 0), .inl (1, 1, 0, 0), .inl (1, 1, 0, 0)], [(0, 0, 10, 2, 0, 0), (6, 2, 0, 0, 0, 0)])], [], [0], (0, 0), [])
def u_X6_isRoundOver_0 : List en_U := []
def x_X6_isRoundOver_0 : en_Cx := ((en_KT, en_TY0, en_om0), en_FTX6, en_PTX6, [], en_LTX6, en_LLX6, en_TTX6, en_ACX6)
def m_X6_isRoundOver_0 : en_Mx := (k_X6_isRoundOver_0, 0, 1, (0, 2), tb_X6_isRoundOver, [])
set_option maxRecDepth 100000 in
theorem ck_X6_isRoundOver_0 : en_all x_X6_isRoundOver_0 m_X6_isRoundOver_0 u_X6_isRoundOver_0 12 = true := by decide +kernel
theorem ct_X6_isRoundOver_0 {l : Launch} (hl : l.stackTraces = false) {PP : Int32 → Int32 → Prop} (hPP : en_P0 PP) (Ω : Nat → en_H → va_W → Prop) : en_Ctr l vwCl en_TY0 PP en_om0 Ω en_KT yX6_isRoundOver (Cond.code yX6_isRoundOver cX6_isRoundOver 1 (some .boolean) :: en_cw) (en_rm 0 (0, 0)) 0 k_X6_isRoundOver_0 :=
  en_main (X := x_X6_isRoundOver_0) (M := m_X6_isRoundOver_0) hPP en_f32_ok en_f64_ok hl (by decide +kernel) ⟨en_FTX6_ok, en_PTX6_ok, en_an, en_LTX6_ok, en_LLX6_ok, en_TTX6_ok hl, ⟨cw256, cw147⟩, en_ACX6_ok⟩ de_X6_isRoundOver ck_X6_isRoundOver_0
def tb_X6_netScore : en_Tb := [
  (28, [(0, .aload_n 0, 1), (1, .getfield 18, 3), (4, .iload_n 1, 1), (5, .aaload, 1), (6, .getfield 155, 3), (9, .iload_n 2, 1), (10, .invokevirtual 469, 3), (13, .aload_n 0, 1), (14, .aload_n 0, 1), (15, .getfield 18, 3), (18, .iload_n 1, 1), (19, .aaload, 1), (20, .getfield 137, 3), (23, .iload_n 2, 1), (24, .invokevirtual 140, 3), (27, .isub, 1)]), 
  (29, [(28, .ireturn, 1)])]
set_option maxRecDepth 40000 in
theorem de_X6_netScore : en_De tb_X6_netScore cX6_netScore := by
  unfold en_De
  decide +kernel
def k_X6_netScore_0 : en_K := (3, ([.inr (.inl 0), .inl (0, 5, 0, 0), .inl (0, 8, 0, 0)], []), [([.inr (.inl 0), .inl (0, 5, 0, 0), .inl (0, 8, 0, 0), .inl ((-2147483648), 2147483647, 0, 0)], [])], [], [0, 1, 2, 5, 7, 9, 10], (0, 0), [])
def u_X6_netScore_0 : List en_U := []
def x_X6_netScore_0 : en_Cx := ((en_KT, en_TY0, en_om0), en_FTX6, en_PTX6, [(140, true, 12, 0, 0, k_X6_strokesGiven_0), (469, true, 7, 0, 0, k_X1_writtenOn_0)], en_LTX6, en_LLX6, en_TTX6, en_ACX6)
def m_X6_netScore_0 : en_Mx := (k_X6_netScore_0, 1, 3, (0, 0), tb_X6_netScore, [])
set_option maxRecDepth 100000 in
theorem ck_X6_netScore_0 : en_all x_X6_netScore_0 m_X6_netScore_0 u_X6_netScore_0 20 = true := by decide +kernel
theorem ct_X6_netScore_0 {l : Launch} (hl : l.stackTraces = false) {PP : Int32 → Int32 → Prop} (hPP : en_P0 PP) (Ω : Nat → en_H → va_W → Prop) : en_Ctr l vwCl en_TY0 PP en_om0 Ω en_KT yX6_netScore (Cond.code yX6_netScore cX6_netScore 3 (some .int) :: en_cw) (en_rm 1 (0, 0)) 0 k_X6_netScore_0 :=
  en_main (X := x_X6_netScore_0) (M := m_X6_netScore_0) hPP en_f32_ok en_f64_ok hl (by decide +kernel) ⟨en_FTX6_ok, en_PTX6_ok, en_ac (⟨yX6_strokesGiven, RX6, cX6_strokesGiven, 5, (some .int), by decide, ct_X6_strokesGiven_0 hl hPP Ω, fun _ => ⟨gc_RX6_140v, by decide, _, rfl, rfl⟩, fun h => Bool.noConfusion h⟩) (en_ac (⟨yX1_writtenOn, RX1, cX1_writtenOn, 2, (some .int), by decide, ct_X1_writtenOn_0 hl hPP Ω, fun _ => ⟨gc_RX6_469v, by decide, _, rfl, rfl⟩, fun h => Bool.noConfusion h⟩) en_an), en_LTX6_ok, en_LLX6_ok, en_TTX6_ok hl, ⟨cw256, cw147⟩, en_ACX6_ok⟩ de_X6_netScore ck_X6_netScore_0
def tb_X6_skinWinner : en_Tb := [
  (26, [(0, .iconst (-1), 1), (1, .istore_n 2, 1), (2, .iconst 0, 1), (3, .istore_n 3, 1), (4, .iconst 0, 1), (5, .istore 4, 2), (7, .iconst 0, 1), (8, .istore 5, 2), (10, .iload 5, 2), (12, .aload_n 0, 1), (13, .getfield 122, 3), (16, .if_icmp .ge 66, 3), (19, .aload_n 0, 1), (20, .getfield 18, 3), (23, .iload 5, 2), (25, .aaload, 1)]), 
  (59, [(26, .getfield 155, 3), (29, .iload_n 1, 1), (30, .invokevirtual 469, 3), (33, .ifCond .eq 43, 3), (36, .aload_n 0, 1), (37, .iload 5, 2), (39, .iload_n 1, 1), (40, .invokevirtual 472, 3), (43, .istore 6, 2), (45, .iload 4, 2), (47, .ifCond .eq 9, 3), (50, .iload 6, 2), (52, .iload_n 3, 1), (53, .if_icmp .ge 12, 3), (56, .iload 5, 2), (58, .istore_n 2, 1)]), 
  (84, [(59, .iload 6, 2), (61, .istore_n 3, 1), (62, .goto 11, 3), (65, .iload 6, 2), (67, .iload_n 3, 1), (68, .if_icmp .ne 5, 3), (71, .iconst (-1), 1), (72, .istore_n 2, 1), (73, .iconst 1, 1), (74, .istore 4, 2), (76, .iinc 5 1, 3), (79, .goto (-69), 3), (82, .iload_n 2, 1), (83, .ireturn, 1)])]
set_option maxRecDepth 40000 in
theorem de_X6_skinWinner : en_De tb_X6_skinWinner cX6_skinWinner := by
  unfold en_De
  decide +kernel
def k_X6_skinWinner_0 : en_K := (2, ([.inr (.inl 0), .inl (0, 8, 0, 0)], []), [([.inr (.inl 0), .inl (0, 8, 0, 0), .inl ((-1), 5, 0, 0)], [])], [], [0, 1, 2, 5, 7, 9, 10], (0, 0), [])
def u_X6_skinWinner_0 : List en_U := [
  (10, ([.inr (.inl 0), .inl (0, 8, 0, 0), .inl (0, 6, 0, 0), .inl (0, 1, 0, 0), .inl ((-2147483648), 2147483647, 0, 0), .inl ((-1), 5, 0, 0)], []), [(0, 0), (1, 1), (5, 2), (4, 3), (3, 4), (2, 5)], (0, 0), [((-2), 2)], 16)]
def x_X6_skinWinner_0 : en_Cx := ((en_KT, en_TY0, en_om0), en_FTX6, en_PTX6, [(469, true, 7, 0, 0, k_X1_writtenOn_0), (472, true, 12, 0, 1, k_X6_netScore_0)], en_LTX6, en_LLX6, en_TTX6, en_ACX6)
def m_X6_skinWinner_0 : en_Mx := (k_X6_skinWinner_0, 2, 7, (0, 0), tb_X6_skinWinner, [])
set_option maxRecDepth 100000 in
theorem ck_X6_skinWinner_0 : en_all x_X6_skinWinner_0 m_X6_skinWinner_0 u_X6_skinWinner_0 34 = true := by decide +kernel
theorem ct_X6_skinWinner_0 {l : Launch} (hl : l.stackTraces = false) {PP : Int32 → Int32 → Prop} (hPP : en_P0 PP) (Ω : Nat → en_H → va_W → Prop) : en_Ctr l vwCl en_TY0 PP en_om0 Ω en_KT yX6_skinWinner (Cond.code yX6_skinWinner cX6_skinWinner 7 (some .int) :: en_cw) (en_rm 2 (0, 0)) 0 k_X6_skinWinner_0 :=
  en_main (X := x_X6_skinWinner_0) (M := m_X6_skinWinner_0) hPP en_f32_ok en_f64_ok hl (by decide +kernel) ⟨en_FTX6_ok, en_PTX6_ok, en_ac (⟨yX1_writtenOn, RX1, cX1_writtenOn, 2, (some .int), by decide, ct_X1_writtenOn_0 hl hPP Ω, fun _ => ⟨gc_RX6_469v, by decide, _, rfl, rfl⟩, fun h => Bool.noConfusion h⟩) (en_ac (⟨yX6_netScore, RX6, cX6_netScore, 3, (some .int), by decide, ct_X6_netScore_0 hl hPP Ω, fun _ => ⟨gc_RX6_472v, by decide, _, rfl, rfl⟩, fun h => Bool.noConfusion h⟩) en_an), en_LTX6_ok, en_LLX6_ok, en_TTX6_ok hl, ⟨cw256, cw147⟩, en_ACX6_ok⟩ de_X6_skinWinner ck_X6_skinWinner_0
def tb_X6_skinsOf : en_Tb := [
  (28, [(0, .iconst 0, 1), (1, .istore_n 2, 1), (2, .iconst 0, 1), (3, .istore_n 3, 1), (4, .iconst 0, 1), (5, .istore 4, 2), (7, .iload 4, 2), (9, .aload_n 0, 1), (10, .getfield 62, 3), (13, .if_icmp .ge 42, 3), (16, .iinc 3 1, 3), (19, .aload_n 0, 1), (20, .iload 4, 2), (22, .invokevirtual 607, 3), (25, .istore 5, 2), (27, .iload 5, 2)]), 
  (56, [(29, .iconst (-1), 1), (30, .if_icmp .eq 19, 3), (33, .iload_n 2, 1), (34, .iload 5, 2), (36, .iload_n 1, 1), (37, .if_icmp .ne 7, 3), (40, .iload_n 3, 1), (41, .goto 4, 3), (44, .iconst 0, 1), (45, .iadd, 1), (46, .istore_n 2, 1), (47, .iconst 0, 1), (48, .istore_n 3, 1), (49, .iinc 4 1, 3), (52, .goto (-45), 3), (55, .iload_n 2, 1)]), 
  (57, [(56, .ireturn, 1)])]
set_option maxRecDepth 40000 in
theorem de_X6_skinsOf : en_De tb_X6_skinsOf cX6_skinsOf := by
  unfold en_De
  decide +kernel
def k_X6_skinsOf_0 : en_K := (2, ([.inr (.inl 0), .inl ((-2147483648), 2147483647, 0, 0)], []), [([.inr (.inl 0), .inl ((-2147483648), 2147483647, 0, 0), .inl ((-2147483648), 2147483647, 0, 0)], [])], [], [0, 1, 2, 5, 7, 9, 10], (0, 0), [])
def u_X6_skinsOf_0 : List en_U := [
  (7, ([.inr (.inl 0), .inl ((-2147483648), 2147483647, 0, 0), .inl (0, 9, 0, 0), .inl ((-2147483648), 2147483647, 0, 0), .inl ((-2147483648), 2147483647, 0, 0)], []), [(0, 0), (1, 1), (4, 2), (3, 3), (2, 4)], (0, 0), [((-2), 2)], 22)]
def x_X6_skinsOf_0 : en_Cx := ((en_KT, en_TY0, en_om0), en_FTX6, en_PTX6, [(607, true, 12, 0, 2, k_X6_skinWinner_0)], en_LTX6, en_LLX6, en_TTX6, en_ACX6)
def m_X6_skinsOf_0 : en_Mx := (k_X6_skinsOf_0, 3, 6, (0, 0), tb_X6_skinsOf, [])
set_option maxRecDepth 100000 in
theorem ck_X6_skinsOf_0 : en_all x_X6_skinsOf_0 m_X6_skinsOf_0 u_X6_skinsOf_0 27 = true := by decide +kernel
theorem ct_X6_skinsOf_0 {l : Launch} (hl : l.stackTraces = false) {PP : Int32 → Int32 → Prop} (hPP : en_P0 PP) (Ω : Nat → en_H → va_W → Prop) : en_Ctr l vwCl en_TY0 PP en_om0 Ω en_KT yX6_skinsOf (Cond.code yX6_skinsOf cX6_skinsOf 6 (some .int) :: en_cw) (en_rm 3 (0, 0)) 0 k_X6_skinsOf_0 :=
  en_main (X := x_X6_skinsOf_0) (M := m_X6_skinsOf_0) hPP en_f32_ok en_f64_ok hl (by decide +kernel) ⟨en_FTX6_ok, en_PTX6_ok, en_ac (⟨yX6_skinWinner, RX6, cX6_skinWinner, 7, (some .int), by decide, ct_X6_skinWinner_0 hl hPP Ω, fun _ => ⟨gc_RX6_607v, by decide, _, rfl, rfl⟩, fun h => Bool.noConfusion h⟩) en_an, en_LTX6_ok, en_LLX6_ok, en_TTX6_ok hl, ⟨cw256, cw147⟩, en_ACX6_ok⟩ de_X6_skinsOf ck_X6_skinsOf_0
def tb_X6_isSound : en_Tb := [
  (28, [(0, .iconst 0, 1), (1, .istore_n 1, 1), (2, .iconst 0, 1), (3, .istore_n 2, 1), (4, .iload_n 2, 1), (5, .aload_n 0, 1), (6, .getfield 122, 3), (9, .if_icmp .ge 61, 3), (12, .aload_n 0, 1), (13, .getfield 18, 3), (16, .iload_n 2, 1), (17, .aaload, 1), (18, .getfield 524, 3), (21, .invokevirtual 562, 3), (24, .ifCond .eq 19, 3), (27, .aload_n 0, 1)]), 
  (56, [(28, .aload_n 0, 1), (29, .getfield 18, 3), (32, .iload_n 2, 1), (33, .aaload, 1), (34, .getfield 185, 3), (37, .invokevirtual 565, 3), (40, .ifCond .ne 5, 3), (43, .iconst 0, 1), (44, .ireturn, 1), (45, .iload_n 1, 1), (46, .aload_n 0, 1), (47, .invokevirtual 440, 3), (50, .ifCond .eq 11, 3), (53, .aload_n 0, 1), (54, .iload_n 2, 1), (55, .invokevirtual 493, 3)]), 
  (84, [(58, .goto 4, 3), (61, .iconst 0, 1), (62, .iadd, 1), (63, .istore_n 1, 1), (64, .iinc 2 1, 3), (67, .goto (-63), 3), (70, .iload_n 1, 1), (71, .aload_n 0, 1), (72, .getfield 62, 3), (75, .if_icmp .gt 7, 3), (78, .iconst 1, 1), (79, .goto 4, 3), (82, .iconst 0, 1), (83, .ireturn, 1)])]
set_option maxRecDepth 40000 in
theorem de_X6_isSound : en_De tb_X6_isSound cX6_isSound := by
  unfold en_De
  decide +kernel
def k_X6_isSound_0 : en_K := (1, ([.inr (.inl 0)], []), [([.inr (.inl 0), .inl (0, 0, 0, 0)], []), ([.inr (.inl 0), .inl (1, 1, 0, 0)], [])], [], [0, 1, 2, 5, 6, 7, 8, 9, 10, 11, 12], (0, 0), [])
def u_X6_isSound_0 : List en_U := [
  (4, ([.inr (.inl 0), .inl (0, 6, 0, 0), .inl ((-2147483648), 2147483647, 0, 0)], []), [(0, 0), (2, 1), (1, 2)], (0, 0), [((-2), 1)], 16)]
def x_X6_isSound_0 : en_Cx := ((en_KT, en_TY0, en_om0), en_FTX6, en_PTX6, [(440, true, 12, 0, 0, k_X6_isRoundOver_0), (493, true, 12, 0, 3, k_X6_skinsOf_0), (562, true, 8, 0, 3, k_X2_isLawful_0), (565, true, 12, 0, 6, k_X6_isPointNearest_0)], en_LTX6, en_LLX6, en_TTX6, en_ACX6)
def m_X6_isSound_0 : en_Mx := (k_X6_isSound_0, 7, 3, (0, 2), tb_X6_isSound, [])
set_option maxRecDepth 100000 in
theorem ck_X6_isSound_0 : en_all x_X6_isSound_0 m_X6_isSound_0 u_X6_isSound_0 34 = true := by decide +kernel
theorem ct_X6_isSound_0 {l : Launch} (hl : l.stackTraces = false) {PP : Int32 → Int32 → Prop} (hPP : en_P0 PP) (Ω : Nat → en_H → va_W → Prop) : en_Ctr l vwCl en_TY0 PP en_om0 Ω en_KT yX6_isSound (Cond.code yX6_isSound cX6_isSound 3 (some .boolean) :: en_cw) (en_rm 7 (0, 0)) 0 k_X6_isSound_0 :=
  en_main (X := x_X6_isSound_0) (M := m_X6_isSound_0) hPP en_f32_ok en_f64_ok hl (by decide +kernel) ⟨en_FTX6_ok, en_PTX6_ok, en_ac (⟨yX6_isRoundOver, RX6, cX6_isRoundOver, 1, (some .boolean), by decide, ct_X6_isRoundOver_0 hl hPP Ω, fun _ => ⟨gc_RX6_440v, by decide, _, rfl, rfl⟩, fun h => Bool.noConfusion h⟩) (en_ac (⟨yX6_skinsOf, RX6, cX6_skinsOf, 6, (some .int), by decide, ct_X6_skinsOf_0 hl hPP Ω, fun _ => ⟨gc_RX6_493v, by decide, _, rfl, rfl⟩, fun h => Bool.noConfusion h⟩) (en_ac (⟨yX2_isLawful, RX2, cX2_isLawful, 1, (some .boolean), by decide, ct_X2_isLawful_0 hl hPP Ω, fun _ => ⟨gc_RX6_562v, by decide, _, rfl, rfl⟩, fun h => Bool.noConfusion h⟩) (en_ac (⟨yX6_isPointNearest, RX6, cX6_isPointNearest, 3, (some .boolean), by decide, ct_X6_isPointNearest_0 hl hPP Ω, fun _ => ⟨gc_RX6_565v, by decide, _, rfl, rfl⟩, fun h => Bool.noConfusion h⟩) en_an))), en_LTX6_ok, en_LLX6_ok, en_TTX6_ok hl, ⟨cw256, cw147⟩, en_ACX6_ok⟩ de_X6_isSound ck_X6_isSound_0
def tb_X6_kindAt : en_Tb := [
  (25, [(0, .aload_n 0, 1), (1, .iload_n 1, 1), (2, .invokevirtual 95, 3), (5, .iload_n 2, 1), (6, .iload_n 3, 1), (7, .invokestatic 114, 3), (10, .aload_n 0, 1), (11, .getfield 11, 3), (14, .iload_n 1, 1), (15, .aaload, 1), (16, .iload_n 2, 1), (17, .iload_n 3, 1), (18, .invokestatic 85, 3), (21, .invokevirtual 118, 3), (24, .ireturn, 1)])]
set_option maxRecDepth 40000 in
theorem de_X6_kindAt : en_De tb_X6_kindAt cX6_kindAt := by
  unfold en_De
  decide +kernel
def k_X6_kindAt_0 : en_K := (4, ([.inr (.inl 0), .inl ((-2147483648), 2147483647, 0, 0), .inl ((-2147483648), 2147483647, 0, 0), .inl ((-2147483648), 2147483647, 0, 0)], []), [([.inr (.inl 0), .inl (0, 8, 0, 0), .inl (0, 29, 0, 0), .inl (0, 19, 0, 0), .inl (0, 65535, 0, 0)], [])], [], [0, 1, 5, 6], (2, 12), [3])
def u_X6_kindAt_0 : List en_U := []
def x_X6_kindAt_0 : en_Cx := ((en_KT, en_TY0, en_om0), en_FTX6, en_PTX6, [(85, false, 0, 0, 0, k_X6_cellAt_0), (95, true, 12, 4, 0, k_X6_needHole_0), (114, false, 0, 4, 1, k_X6_needCell_0), (118, true, 9, 0, 0, k_X3_kindOf_0)], en_LTX6, en_LLX6, en_TTX6, en_ACX6)
def m_X6_kindAt_0 : en_Mx := (k_X6_kindAt_0, 2, 4, (0, 1), tb_X6_kindAt, [])
set_option maxRecDepth 100000 in
theorem ck_X6_kindAt_0 : en_all x_X6_kindAt_0 m_X6_kindAt_0 u_X6_kindAt_0 18 = true := by decide +kernel
theorem ct_X6_kindAt_0 {l : Launch} (hl : l.stackTraces = false) {PP : Int32 → Int32 → Prop} (hPP : en_P0 PP) (Ω : Nat → en_H → va_W → Prop) : en_Ctr l vwCl en_TY0 PP en_om0 Ω en_KT yX6_kindAt (Cond.code yX6_kindAt cX6_kindAt 4 (some .char) :: en_cw) (en_rm 2 (2, 12)) 0 k_X6_kindAt_0 :=
  en_main (X := x_X6_kindAt_0) (M := m_X6_kindAt_0) hPP en_f32_ok en_f64_ok hl (by decide +kernel) ⟨en_FTX6_ok, en_PTX6_ok, en_ac (⟨yX6_cellAt, RX6, cX6_cellAt, 2, (some .int), by decide, ct_X6_cellAt_0 hl hPP Ω, fun h => Bool.noConfusion h, fun _ => gc_RX6_85s⟩) (en_ac (⟨yX6_needHole, RX6, cX6_needHole, 2, none, by decide, ct_X6_needHole_0 hl hPP Ω, fun _ => ⟨gc_RX6_95v, by decide, _, rfl, rfl⟩, fun h => Bool.noConfusion h⟩) (en_ac (⟨yX6_needCell, RX6, cX6_needCell, 2, none, by decide, ct_X6_needCell_0 hl hPP Ω, fun h => Bool.noConfusion h, fun _ => gc_RX6_114s⟩) (en_ac (⟨yX3_kindOf, RX3, cX3_kindOf, 2, (some .char), by decide, ct_X3_kindOf_0 hl hPP Ω, fun _ => ⟨gc_RX6_118v, by decide, _, rfl, rfl⟩, fun h => Bool.noConfusion h⟩) en_an))), en_LTX6_ok, en_LLX6_ok, en_TTX6_ok hl, ⟨cw256, cw147⟩, en_ACX6_ok⟩ de_X6_kindAt ck_X6_kindAt_0
def tb_X6_lie : en_Tb := [
  (30, [(0, .aload_n 0, 1), (1, .iload_n 1, 1), (2, .invokevirtual 127, 3), (5, .aload_n 0, 1), (6, .invokevirtual 167, 3), (9, .aload_n 0, 1), (10, .getfield 18, 3), (13, .iload_n 1, 1), (14, .aaload, 1), (15, .getfield 185, 3), (18, .astore_n 3, 1), (19, .aload_n 3, 1), (20, .invokevirtual 414, 3), (23, .ifCond .ne 14, 3), (26, .new 177, 3), (29, .dup, 1)]), 
  (59, [(30, .ldc_w 417, 3), (33, .invokespecial 181, 3), (36, .athrow, 1), (37, .iload_n 2, 1), (38, .ifCond .eq 13, 3), (41, .aload_n 3, 1), (42, .getfield 211, 3), (45, .bipush 30, 2), (47, .irem, 1), (48, .goto 10, 3), (51, .aload_n 3, 1), (52, .getfield 211, 3), (55, .bipush 30, 2), (57, .idiv, 1), (58, .ireturn, 1)])]
set_option maxRecDepth 40000 in
theorem de_X6_lie : en_De tb_X6_lie cX6_lie := by
  unfold en_De
  decide +kernel
def k_X6_lie_0 : en_K := (3, ([.inr (.inl 0), .inl ((-2147483648), 2147483647, 0, 0), .inl (0, 1, 0, 0)], []), [([.inr (.inl 0), .inl (0, 5, 0, 0), .inl (0, 1, 0, 0), .inl ((-2147483648), 2147483647, 0, 0)], [])], [], [0, 2, 7, 8], (3, 18), [1, 3, 4])
def u_X6_lie_0 : List en_U := []
def x_X6_lie_0 : en_Cx := ((en_KT, en_TY0, en_om0), en_FTX6, en_PTX6, [(127, true, 12, 4, 0, k_X6_needPlayer_0), (167, true, 12, 4, 0, k_X6_needRound_0), (414, true, 6, 0, 0, k_X0_isPlayable_0)], en_LTX6, en_LLX6, en_TTX6, en_ACX6)
def m_X6_lie_0 : en_Mx := (k_X6_lie_0, 1, 4, (0, 0), tb_X6_lie, [])
set_option maxRecDepth 100000 in
theorem ck_X6_lie_0 : en_all x_X6_lie_0 m_X6_lie_0 u_X6_lie_0 25 = true := by decide +kernel
theorem ct_X6_lie_0 {l : Launch} (hl : l.stackTraces = false) {PP : Int32 → Int32 → Prop} (hPP : en_P0 PP) (Ω : Nat → en_H → va_W → Prop) : en_Ctr l vwCl en_TY0 PP en_om0 Ω en_KT yX6_lie (Cond.code yX6_lie cX6_lie 4 (some .int) :: en_cw) (en_rm 1 (3, 18)) 0 k_X6_lie_0 :=
  en_main (X := x_X6_lie_0) (M := m_X6_lie_0) hPP en_f32_ok en_f64_ok hl (by decide +kernel) ⟨en_FTX6_ok, en_PTX6_ok, en_ac (⟨yX6_needPlayer, RX6, cX6_needPlayer, 2, none, by decide, ct_X6_needPlayer_0 hl hPP Ω, fun _ => ⟨gc_RX6_127v, by decide, _, rfl, rfl⟩, fun h => Bool.noConfusion h⟩) (en_ac (⟨yX6_needRound, RX6, cX6_needRound, 1, none, by decide, ct_X6_needRound_0 hl hPP Ω, fun _ => ⟨gc_RX6_167v, by decide, _, rfl, rfl⟩, fun h => Bool.noConfusion h⟩) (en_ac (⟨yX0_isPlayable, RX0, cX0_isPlayable, 1, (some .boolean), by decide, ct_X0_isPlayable_0 hl hPP Ω, fun _ => ⟨gc_RX6_414v, by decide, _, rfl, rfl⟩, fun h => Bool.noConfusion h⟩) en_an)), en_LTX6_ok, en_LLX6_ok, en_TTX6_ok hl, ⟨cw256, cw147⟩, en_ACX6_ok⟩ de_X6_lie ck_X6_lie_0
def tb_X6_commonDivisor : en_Tb := [
  (23, [(0, .bipush 30, 2), (2, .istore_n 2, 1), (3, .iload_n 2, 1), (4, .iconst 1, 1), (5, .if_icmp .le 23, 3), (8, .iload_n 0, 1), (9, .iload_n 2, 1), (10, .irem, 1), (11, .ifCond .ne 11, 3), (14, .iload_n 1, 1), (15, .iload_n 2, 1), (16, .irem, 1), (17, .ifCond .ne 5, 3), (20, .iload_n 2, 1), (21, .ireturn, 1), (22, .iinc 2 (-1), 3)]), 
  (30, [(25, .goto (-22), 3), (28, .iconst 1, 1), (29, .ireturn, 1)])]
set_option maxRecDepth 40000 in
theorem de_X6_commonDivisor : en_De tb_X6_commonDivisor cX6_commonDivisor := by
  unfold en_De
  decide +kernel
def k_X6_commonDivisor_0 : en_K := (2, ([.inl ((-2147483648), 2147483647, 0, 0), .inl ((-2147483648), 2147483647, 0, 0)], []), [([.inl ((-2147483648), 2147483647, 0, 0), .inl ((-2147483648), 2147483647, 0, 0), .inl (1, 30, 0, 0)], [])], [], [], (0, 0), [])
def u_X6_commonDivisor_0 : List en_U := [
  (3, ([.inl ((-2147483648), 2147483647, 0, 0), .inl ((-2147483648), 2147483647, 0, 0), .inl (1, 30, 0, 0)], []), [(0, 0), (1, 1), (2, 2)], (0, 0), [(2, 2)], 2)]
def x_X6_commonDivisor_0 : en_Cx := ((en_KT, en_TY0, en_om0), en_FTX6, en_PTX6, [], en_LTX6, en_LLX6, en_TTX6, en_ACX6)
def m_X6_commonDivisor_0 : en_Mx := (k_X6_commonDivisor_0, 0, 3, (0, 0), tb_X6_commonDivisor, [])
set_option maxRecDepth 100000 in
theorem ck_X6_commonDivisor_0 : en_all x_X6_commonDivisor_0 m_X6_commonDivisor_0 u_X6_commonDivisor_0 16 = true := by decide +kernel
theorem ct_X6_commonDivisor_0 {l : Launch} (hl : l.stackTraces = false) {PP : Int32 → Int32 → Prop} (hPP : en_P0 PP) (Ω : Nat → en_H → va_W → Prop) : en_Ctr l vwCl en_TY0 PP en_om0 Ω en_KT yX6_commonDivisor (Cond.code yX6_commonDivisor cX6_commonDivisor 3 (some .int) :: en_cw) (en_rm 0 (0, 0)) 0 k_X6_commonDivisor_0 :=
  en_main (X := x_X6_commonDivisor_0) (M := m_X6_commonDivisor_0) hPP en_f32_ok en_f64_ok hl (by decide +kernel) ⟨en_FTX6_ok, en_PTX6_ok, en_an, en_LTX6_ok, en_LLX6_ok, en_TTX6_ok hl, ⟨cw256, cw147⟩, en_ACX6_ok⟩ de_X6_commonDivisor ck_X6_commonDivisor_0
def tb_X3_cellOnLine : en_Tb := [
  (24, [(0, .iload_n 1, 1), (1, .bipush 30, 2), (3, .irem, 1), (4, .aload_n 0, 1), (5, .getfield 27, 3), (8, .bipush 30, 2), (10, .irem, 1), (11, .isub, 1), (12, .istore_n 3, 1), (13, .iload_n 1, 1), (14, .bipush 30, 2), (16, .idiv, 1), (17, .aload_n 0, 1), (18, .getfield 27, 3), (21, .bipush 30, 2), (23, .idiv, 1)]), 
  (49, [(24, .isub, 1), (25, .istore 4, 2), (27, .iload_n 3, 1), (28, .iload 4, 2), (30, .invokestatic 48, 3), (33, .istore 5, 2), (35, .iload 5, 2), (37, .iconst 1, 1), (38, .if_icmp .ge 5, 3), (41, .iconst (-1), 1), (42, .ireturn, 1), (43, .iload_n 1, 1), (44, .bipush 30, 2), (46, .irem, 1), (47, .iload_n 2, 1), (48, .iload_n 3, 1)]), 
  (71, [(49, .iload 5, 2), (51, .idiv, 1), (52, .imul, 1), (53, .iadd, 1), (54, .istore 6, 2), (56, .iload_n 1, 1), (57, .bipush 30, 2), (59, .idiv, 1), (60, .iload_n 2, 1), (61, .iload 4, 2), (63, .iload 5, 2), (65, .idiv, 1), (66, .imul, 1), (67, .iadd, 1), (68, .istore 7, 2), (70, .iload 6, 2)]), 
  (92, [(72, .iload 7, 2), (74, .invokestatic 15, 3), (77, .ifCond .eq 13, 3), (80, .iload 6, 2), (82, .iload 7, 2), (84, .invokestatic 19, 3), (87, .goto 4, 3), (90, .iconst (-1), 1), (91, .ireturn, 1)])]
set_option maxRecDepth 40000 in
theorem de_X3_cellOnLine : en_De tb_X3_cellOnLine cX3_cellOnLine := by
  unfold en_De
  decide +kernel
def k_X3_cellOnLine_0 : en_K := (3, ([.inr (.inl 5), .inl ((-2147483648), 2147483647, 0, 0), .inl ((-2147483648), 2147483647, 0, 0)], []), [([.inr (.inl 5), .inl ((-2147483648), 2147483647, 0, 0), .inl ((-2147483648), 2147483647, 0, 0), .inl (0, 599, 0, 0)], []), ([.inr (.inl 5), .inl ((-2147483648), 2147483647, 0, 0), .inl ((-2147483648), 2147483647, 0, 0), .inl ((-1), (-1), 0, 0)], [])], [], [5], (0, 0), [])
def u_X3_cellOnLine_0 : List en_U := []
def x_X3_cellOnLine_0 : en_Cx := ((en_KT, en_TY0, en_om0), en_FTX3, en_PTX3, [(15, false, 0, 0, 0, k_X6_isCell_0), (19, false, 0, 0, 0, k_X6_cellAt_0), (48, false, 0, 0, 0, k_X6_commonDivisor_0)], en_LTX3, en_LLX3, en_TTX3, en_ACX3)
def m_X3_cellOnLine_0 : en_Mx := (k_X3_cellOnLine_0, 1, 8, (0, 0), tb_X3_cellOnLine, [])
set_option maxRecDepth 100000 in
theorem ck_X3_cellOnLine_0 : en_all x_X3_cellOnLine_0 m_X3_cellOnLine_0 u_X3_cellOnLine_0 57 = true := by decide +kernel
theorem ct_X3_cellOnLine_0 {l : Launch} (hl : l.stackTraces = false) {PP : Int32 → Int32 → Prop} (hPP : en_P0 PP) (Ω : Nat → en_H → va_W → Prop) : en_Ctr l vwCl en_TY0 PP en_om0 Ω en_KT yX3_cellOnLine (Cond.code yX3_cellOnLine cX3_cellOnLine 8 (some .int) :: en_cw) (en_rm 1 (0, 0)) 0 k_X3_cellOnLine_0 :=
  en_main (X := x_X3_cellOnLine_0) (M := m_X3_cellOnLine_0) hPP en_f32_ok en_f64_ok hl (by decide +kernel) ⟨en_FTX3_ok, en_PTX3_ok, en_ac (⟨yX6_isCell, RX6, cX6_isCell, 2, (some .boolean), by decide, ct_X6_isCell_0 hl hPP Ω, fun h => Bool.noConfusion h, fun _ => gc_RX3_15s⟩) (en_ac (⟨yX6_cellAt, RX6, cX6_cellAt, 2, (some .int), by decide, ct_X6_cellAt_0 hl hPP Ω, fun h => Bool.noConfusion h, fun _ => gc_RX3_19s⟩) (en_ac (⟨yX6_commonDivisor, RX6, cX6_commonDivisor, 3, (some .int), by decide, ct_X6_commonDivisor_0 hl hPP Ω, fun h => Bool.noConfusion h, fun _ => gc_RX3_48s⟩) en_an)), en_LTX3_ok, en_LLX3_ok, en_TTX3_ok hl, ⟨cw256, cw147⟩, en_ACX3_ok⟩ de_X3_cellOnLine ck_X3_cellOnLine_0
def tb_X6_line : en_Tb := [
  (29, [(0, .aload_n 0, 1), (1, .iload_n 1, 1), (2, .invokevirtual 127, 3), (5, .iload_n 2, 1), (6, .iconst 1, 1), (7, .if_icmp .lt 9, 3), (10, .iload_n 2, 1), (11, .bipush 9, 2), (13, .if_icmp .le 14, 3), (16, .new 49, 3), (19, .dup, 1), (20, .ldc_w 292, 3), (23, .invokespecial 53, 3), (26, .athrow, 1), (27, .aload_n 0, 1), (28, .invokevirtual 167, 3)]), 
  (60, [(31, .aload_n 0, 1), (32, .getfield 18, 3), (35, .iload_n 1, 1), (36, .aaload, 1), (37, .getfield 185, 3), (40, .astore_n 3, 1), (41, .aload_n 0, 1), (42, .getfield 11, 3), (45, .aload_n 0, 1), (46, .getfield 170, 3), (49, .aaload, 1), (50, .astore 4, 2), (52, .aload_n 3, 1), (53, .invokevirtual 294, 3), (56, .ifCond .eq 16, 3), (59, .aload 4, 2)]), 
  (95, [(61, .aload_n 3, 1), (62, .getfield 211, 3), (65, .iload_n 2, 1), (66, .invokevirtual 297, 3), (69, .goto 4, 3), (72, .iconst (-1), 1), (73, .istore 5, 2), (75, .iload 5, 2), (77, .iconst (-1), 1), (78, .if_icmp .eq 13, 3), (81, .aload 4, 2), (83, .iload 5, 2), (85, .invokevirtual 300, 3), (88, .ifCond .ne 14, 3), (91, .new 74, 3), (94, .dup, 1)]), 
  (110, [(95, .ldc_w 303, 3), (98, .invokespecial 78, 3), (101, .athrow, 1), (102, .aload_n 0, 1), (103, .aload_n 3, 1), (104, .iload 5, 2), (106, .invokevirtual 288, 3), (109, .ireturn, 1)])]
set_option maxRecDepth 40000 in
theorem de_X6_line : en_De tb_X6_line cX6_line := by
  unfold en_De
  decide +kernel
def k_X6_line_0 : en_K := (3, ([.inr (.inl 0), .inl ((-2147483648), 2147483647, 0, 0), .inl ((-2147483648), 2147483647, 0, 0)], []), [([.inr (.inl 0), .inl (0, 5, 0, 0), .inl (1, 9, 0, 0), .inl ((-2147483648), 2147483647, 0, 0)], [])], [(4, 1), (8, 0), (8, 1), (8, 2), (8, 6), (8, 7), (8, 9)], [0, 1, 2, 4, 5, 6, 7, 8], (3, 18), [0, 1, 2, 3])
def u_X6_line_0 : List en_U := []
def x_X6_line_0 : en_Cx := ((en_KT, en_TY0, en_om0), en_FTX6, en_PTX6, [(127, true, 12, 4, 0, k_X6_needPlayer_0), (167, true, 12, 4, 0, k_X6_needRound_0), (288, true, 12, 0, 1, k_X6_relieveWithPenalty_0), (294, true, 6, 0, 0, k_X0_isAtRest_0), (297, true, 9, 0, 1, k_X3_cellOnLine_0), (300, true, 9, 0, 3, k_X3_isOpenForPenalty_0)], en_LTX6, en_LLX6, en_TTX6, en_ACX6)
def m_X6_line_0 : en_Mx := (k_X6_line_0, 4, 6, (0, 0), tb_X6_line, [])
set_option maxRecDepth 100000 in
theorem ck_X6_line_0 : en_all x_X6_line_0 m_X6_line_0 u_X6_line_0 48 = true := by decide +kernel
theorem ct_X6_line_0 {l : Launch} (hl : l.stackTraces = false) {PP : Int32 → Int32 → Prop} (hPP : en_P0 PP) (Ω : Nat → en_H → va_W → Prop) : en_Ctr l vwCl en_TY0 PP en_om0 Ω en_KT yX6_line (Cond.code yX6_line cX6_line 6 (some .int) :: en_cw) (en_rm 4 (3, 18)) 0 k_X6_line_0 :=
  en_main (X := x_X6_line_0) (M := m_X6_line_0) hPP en_f32_ok en_f64_ok hl (by decide +kernel) ⟨en_FTX6_ok, en_PTX6_ok, en_ac (⟨yX6_needPlayer, RX6, cX6_needPlayer, 2, none, by decide, ct_X6_needPlayer_0 hl hPP Ω, fun _ => ⟨gc_RX6_127v, by decide, _, rfl, rfl⟩, fun h => Bool.noConfusion h⟩) (en_ac (⟨yX6_needRound, RX6, cX6_needRound, 1, none, by decide, ct_X6_needRound_0 hl hPP Ω, fun _ => ⟨gc_RX6_167v, by decide, _, rfl, rfl⟩, fun h => Bool.noConfusion h⟩) (en_ac (⟨yX6_relieveWithPenalty, RX6, cX6_relieveWithPenalty, 3, (some .int), by decide, ct_X6_relieveWithPenalty_0 hl hPP Ω, fun _ => ⟨gc_RX6_288v, by decide, _, rfl, rfl⟩, fun h => Bool.noConfusion h⟩) (en_ac (⟨yX0_isAtRest, RX0, cX0_isAtRest, 1, (some .boolean), by decide, ct_X0_isAtRest_0 hl hPP Ω, fun _ => ⟨gc_RX6_294v, by decide, _, rfl, rfl⟩, fun h => Bool.noConfusion h⟩) (en_ac (⟨yX3_cellOnLine, RX3, cX3_cellOnLine, 8, (some .int), by decide, ct_X3_cellOnLine_0 hl hPP Ω, fun _ => ⟨gc_RX6_297v, by decide, _, rfl, rfl⟩, fun h => Bool.noConfusion h⟩) (en_ac (⟨yX3_isOpenForPenalty, RX3, cX3_isOpenForPenalty, 3, (some .boolean), by decide, ct_X3_isOpenForPenalty_0 hl hPP Ω, fun _ => ⟨gc_RX6_300v, by decide, _, rfl, rfl⟩, fun h => Bool.noConfusion h⟩) en_an))))), en_LTX6_ok, en_LLX6_ok, en_TTX6_ok hl, ⟨cw256, cw147⟩, en_ACX6_ok⟩ de_X6_line ck_X6_line_0
