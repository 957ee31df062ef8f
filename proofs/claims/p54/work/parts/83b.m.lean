def tb_X6_area : en_Tb := [
  (34, [(0, .aload_n 0, 1), (1, .iload_n 1, 1), (2, .invokevirtual 95, 3), (5, .iload_n 2, 1), (6, .invokestatic 99, 3), (9, .ifCond .eq 35, 3), (12, .iload_n 3, 1), (13, .iload 4, 2), (15, .invokestatic 45, 3), (18, .ifCond .eq 26, 3), (21, .iload 5, 2), (23, .iload 6, 2), (25, .invokestatic 45, 3), (28, .ifCond .eq 16, 3), (31, .iload 5, 2), (33, .iload_n 3, 1)]), 
  (67, [(34, .if_icmp .lt 10, 3), (37, .iload 6, 2), (39, .iload 4, 2), (41, .if_icmp .ge 13, 3), (44, .new 49, 3), (47, .dup, 1), (48, .ldc 103, 2), (50, .invokespecial 53, 3), (53, .athrow, 1), (54, .aload_n 0, 1), (55, .getfield 58, 3), (58, .ifCond .ne 17, 3), (61, .aload_n 0, 1), (62, .getfield 11, 3), (65, .iload_n 1, 1), (66, .aaload, 1)]), 
  (96, [(67, .getfield 105, 3), (70, .bipush 12, 2), (72, .if_icmp .lt 13, 3), (75, .new 65, 3), (78, .dup, 1), (79, .ldc 108, 2), (81, .invokespecial 69, 3), (84, .athrow, 1), (85, .aload_n 0, 1), (86, .getfield 11, 3), (89, .iload_n 1, 1), (90, .aaload, 1), (91, .iload_n 2, 1), (92, .iload_n 3, 1), (93, .iload 4, 2), (95, .iload 5, 2)]), 
  (112, [(97, .iload 6, 2), (99, .invokevirtual 110, 3), (102, .aload_n 0, 1), (103, .getfield 11, 3), (106, .iload_n 1, 1), (107, .aaload, 1), (108, .getfield 105, 3), (111, .ireturn, 1)])]
set_option maxRecDepth 40000 in
theorem de_X6_area : en_De tb_X6_area cX6_area := by
  unfold en_De
  decide +kernel
def k_X6_area_0 : en_K := (7, ([.inr (.inl 0), .inl ((-2147483648), 2147483647, 0, 0), .inl (0, 65535, 0, 0), .inl ((-2147483648), 2147483647, 0, 0), .inl ((-2147483648), 2147483647, 0, 0), .inl ((-2147483648), 2147483647, 0, 0), .inl ((-2147483648), 2147483647, 0, 0)], []), [([.inr (.inl 0), .inl (0, 8, 0, 0), .inl (46, 121, 0, 0), .inl (0, 29, 0, 0), .inl (0, 19, 0, 0), .inl (0, 29, 0, 0), .inl (0, 19, 0, 0), .inl ((-2147483648), 2147483647, 0, 0), .inl (0, 0, 0, 0)], [(0, 0, 10, 8, 0, 0)])], [(5, 5), (6, 0)], [0, 1, 5, 6], (2, 12), [0, 1, 3])
def u_X6_area_0 : List en_U := []
def x_X6_area_0 : en_Cx := ((en_KT, en_TY0, en_om0), en_FTX6, en_PTX6, [(45, false, 0, 0, 0, k_X6_isCell_0), (95, true, 12, 4, 0, k_X6_needHole_0), (99, false, 0, 0, 0, k_X6_isKind_0), (110, true, 9, 4, 1, k_X3_paint_0)], en_LTX6, en_LLX6, en_TTX6, en_ACX6)
def m_X6_area_0 : en_Mx := (k_X6_area_0, 2, 7, (0, 0), tb_X6_area, [])
set_option maxRecDepth 100000 in
theorem ck_X6_area_0 : en_all x_X6_area_0 m_X6_area_0 u_X6_area_0 49 = true := by decide +kernel
theorem ct_X6_area_0 {l : Launch} (hl : l.stackTraces = false) {PP : Int32 → Int32 → Prop} (hPP : en_P0 PP) (Ω : Nat → en_H → va_W → Prop) : en_Ctr l vwCl en_TY0 PP en_om0 Ω en_KT yX6_area (Cond.code yX6_area cX6_area 7 (some .int) :: en_cw) (en_rm 2 (2, 12)) 0 k_X6_area_0 :=
  en_main (X := x_X6_area_0) (M := m_X6_area_0) hPP en_f32_ok en_f64_ok hl (by decide +kernel) ⟨en_FTX6_ok, en_PTX6_ok, en_ac (⟨yX6_isCell, RX6, cX6_isCell, 2, (some .boolean), by decide, ct_X6_isCell_0 hl hPP Ω, fun h => Bool.noConfusion h, fun _ => gc_RX6_45s⟩) (en_ac (⟨yX6_needHole, RX6, cX6_needHole, 2, none, by decide, ct_X6_needHole_0 hl hPP Ω, fun _ => ⟨gc_RX6_95v, by decide, _, rfl, rfl⟩, fun h => Bool.noConfusion h⟩) (en_ac (⟨yX6_isKind, RX6, cX6_isKind, 1, (some .boolean), by decide, ct_X6_isKind_0 hl hPP Ω, fun h => Bool.noConfusion h, fun _ => gc_RX6_99s⟩) (en_ac (⟨yX3_paint, RX3, cX3_paint, 8, none, by decide, ct_X3_paint_0 hl hPP Ω, fun _ => ⟨gc_RX6_110v, by decide, _, rfl, rfl⟩, fun h => Bool.noConfusion h⟩) en_an))), en_LTX6_ok, en_LLX6_ok, en_TTX6_ok hl, ⟨cw256, cw147⟩, en_ACX6_ok⟩ de_X6_area ck_X6_area_0
def tb_X6_needCell : en_Tb := [
  (20, [(0, .iload_n 0, 1), (1, .iload_n 1, 1), (2, .invokestatic 45, 3), (5, .ifCond .ne 14, 3), (8, .new 535, 3), (11, .dup, 1), (12, .ldc_w 572, 3), (15, .invokespecial 539, 3), (18, .athrow, 1), (19, .return_, 1)])]
set_option maxRecDepth 40000 in
theorem de_X6_needCell : en_De tb_X6_needCell cX6_needCell := by
  unfold en_De
  decide +kernel
def k_X6_needCell_0 : en_K := (2, ([.inl ((-2147483648), 2147483647, 0, 0), .inl ((-2147483648), 2147483647, 0, 0)], []), [([.inl (0, 29, 0, 0), .inl (0, 19, 0, 0)], [])], [], [], (1, 6), [3])
def u_X6_needCell_0 : List en_U := []
def x_X6_needCell_0 : en_Cx := ((en_KT, en_TY0, en_om0), en_FTX6, en_PTX6, [(45, false, 0, 0, 0, k_X6_isCell_0)], en_LTX6, en_LLX6, en_TTX6, en_ACX6)
def m_X6_needCell_0 : en_Mx := (k_X6_needCell_0, 1, 2, (4, 0), tb_X6_needCell, [])
set_option maxRecDepth 100000 in
theorem ck_X6_needCell_0 : en_all x_X6_needCell_0 m_X6_needCell_0 u_X6_needCell_0 8 = true := by decide +kernel
theorem ct_X6_needCell_0 {l : Launch} (hl : l.stackTraces = false) {PP : Int32 → Int32 → Prop} (hPP : en_P0 PP) (Ω : Nat → en_H → va_W → Prop) : en_Ctr l vwCl en_TY0 PP en_om0 Ω en_KT yX6_needCell (Cond.code yX6_needCell cX6_needCell 2 none :: en_cw) (en_rm 1 (1, 6)) 4 k_X6_needCell_0 :=
  en_main (X := x_X6_needCell_0) (M := m_X6_needCell_0) hPP en_f32_ok en_f64_ok hl (by decide +kernel) ⟨en_FTX6_ok, en_PTX6_ok, en_ac (⟨yX6_isCell, RX6, cX6_isCell, 2, (some .boolean), by decide, ct_X6_isCell_0 hl hPP Ω, fun h => Bool.noConfusion h, fun _ => gc_RX6_45s⟩) en_an, en_LTX6_ok, en_LLX6_ok, en_TTX6_ok hl, ⟨cw256, cw147⟩, en_ACX6_ok⟩ de_X6_needCell ck_X6_needCell_0
def tb_X0_isAtRest : en_Tb := [
  (29, [(0, .aload_n 0, 1), (1, .getfield 9, 3), (4, .bipush 108, 2), (6, .if_icmp .ne 21, 3), (9, .aload_n 0, 1), (10, .getfield 19, 3), (13, .ifCond .ne 14, 3), (16, .aload_n 0, 1), (17, .getfield 38, 3), (20, .ifCond .ne 7, 3), (23, .iconst 1, 1), (24, .goto 4, 3), (27, .iconst 0, 1), (28, .ireturn, 1)])]
set_option maxRecDepth 40000 in
theorem de_X0_isAtRest : en_De tb_X0_isAtRest cX0_isAtRest := by
  unfold en_De
  decide +kernel
def k_X0_isAtRest_0 : en_K := (1, ([.inr (.inl 8)], []), [([.inr (.inl 8), .inl (0, 0, 0, 0)], []), ([.inr (.inl 8), .inl (1, 1, 0, 0)], [])], [], [8], (0, 0), [])
def u_X0_isAtRest_0 : List en_U := []
def x_X0_isAtRest_0 : en_Cx := ((en_KT, en_TY0, en_om0), en_FTX0, en_PTX0, [], en_LTX0, en_LLX0, en_TTX0, en_ACX0)
def m_X0_isAtRest_0 : en_Mx := (k_X0_isAtRest_0, 0, 1, (0, 2), tb_X0_isAtRest, [])
set_option maxRecDepth 100000 in
theorem ck_X0_isAtRest_0 : en_all x_X0_isAtRest_0 m_X0_isAtRest_0 u_X0_isAtRest_0 16 = true := by decide +kernel
theorem ct_X0_isAtRest_0 {l : Launch} (hl : l.stackTraces = false) {PP : Int32 → Int32 → Prop} (hPP : en_P0 PP) (Ω : Nat → en_H → va_W → Prop) : en_Ctr l vwCl en_TY0 PP en_om0 Ω en_KT yX0_isAtRest (Cond.code yX0_isAtRest cX0_isAtRest 1 (some .boolean) :: en_cw) (en_rm 0 (0, 0)) 0 k_X0_isAtRest_0 :=
  en_main (X := x_X0_isAtRest_0) (M := m_X0_isAtRest_0) hPP en_f32_ok en_f64_ok hl (by decide +kernel) ⟨en_FTX0_ok, en_PTX0_ok, en_an, en_LTX0_ok, en_LLX0_ok, en_TTX0_ok hl, ⟨cw256, cw147⟩, en_ACX0_ok⟩ de_X0_isAtRest ck_X0_isAtRest_0
def tb_X3_kindOf : en_Tb := [
  (23, [(0, .iload_n 1, 1), (1, .ifCond .lt 19, 3), (4, .iload_n 1, 1), (5, .sipush 600, 3), (8, .if_icmp .ge 12, 3), (11, .aload_n 0, 1), (12, .getfield 9, 3), (15, .iload_n 1, 1), (16, .caload, 1), (17, .goto 5, 3), (20, .bipush 102, 2), (22, .ireturn, 1)])]
set_option maxRecDepth 40000 in
theorem de_X3_kindOf : en_De tb_X3_kindOf cX3_kindOf := by
  unfold en_De
  decide +kernel
def k_X3_kindOf_0 : en_K := (2, ([.inr (.inl 5), .inl ((-2147483648), 2147483647, 0, 0)], []), [([.inr (.inl 5), .inl ((-2147483648), 2147483647, 0, 0), .inl (0, 65535, 0, 0)], [])], [], [5, 6], (0, 0), [])
def u_X3_kindOf_0 : List en_U := []
def x_X3_kindOf_0 : en_Cx := ((en_KT, en_TY0, en_om0), en_FTX3, en_PTX3, [], en_LTX3, en_LLX3, en_TTX3, en_ACX3)
def m_X3_kindOf_0 : en_Mx := (k_X3_kindOf_0, 0, 2, (0, 1), tb_X3_kindOf, [])
set_option maxRecDepth 100000 in
theorem ck_X3_kindOf_0 : en_all x_X3_kindOf_0 m_X3_kindOf_0 u_X3_kindOf_0 14 = true := by decide +kernel
theorem ct_X3_kindOf_0 {l : Launch} (hl : l.stackTraces = false) {PP : Int32 → Int32 → Prop} (hPP : en_P0 PP) (Ω : Nat → en_H → va_W → Prop) : en_Ctr l vwCl en_TY0 PP en_om0 Ω en_KT yX3_kindOf (Cond.code yX3_kindOf cX3_kindOf 2 (some .char) :: en_cw) (en_rm 0 (0, 0)) 0 k_X3_kindOf_0 :=
  en_main (X := x_X3_kindOf_0) (M := m_X3_kindOf_0) hPP en_f32_ok en_f64_ok hl (by decide +kernel) ⟨en_FTX3_ok, en_PTX3_ok, en_an, en_LTX3_ok, en_LLX3_ok, en_TTX3_ok hl, ⟨cw256, cw147⟩, en_ACX3_ok⟩ de_X3_kindOf ck_X3_kindOf_0
def tb_X6_distance : en_Tb := [
  (20, [(0, .iload_n 0, 1), (1, .bipush 30, 2), (3, .irem, 1), (4, .iload_n 1, 1), (5, .bipush 30, 2), (7, .irem, 1), (8, .isub, 1), (9, .istore_n 2, 1), (10, .iload_n 0, 1), (11, .bipush 30, 2), (13, .idiv, 1), (14, .iload_n 1, 1), (15, .bipush 30, 2), (17, .idiv, 1), (18, .isub, 1), (19, .istore_n 3, 1)]), 
  (28, [(20, .iload_n 2, 1), (21, .iload_n 2, 1), (22, .imul, 1), (23, .iload_n 3, 1), (24, .iload_n 3, 1), (25, .imul, 1), (26, .iadd, 1), (27, .ireturn, 1)])]
set_option maxRecDepth 40000 in
theorem de_X6_distance : en_De tb_X6_distance cX6_distance := by
  unfold en_De
  decide +kernel
def k_X6_distance_0 : en_K := (2, ([.inl ((-2147483648), 2147483647, 0, 0), .inl ((-2147483648), 2147483647, 0, 0)], []), [([.inl ((-2147483648), 2147483647, 0, 0), .inl ((-2147483648), 2147483647, 0, 0), .inl ((-2147483648), 2147483647, 0, 0)], [])], [], [], (0, 0), [])
def u_X6_distance_0 : List en_U := []
def x_X6_distance_0 : en_Cx := ((en_KT, en_TY0, en_om0), en_FTX6, en_PTX6, [], en_LTX6, en_LLX6, en_TTX6, en_ACX6)
def m_X6_distance_0 : en_Mx := (k_X6_distance_0, 0, 4, (0, 0), tb_X6_distance, [])
set_option maxRecDepth 100000 in
theorem ck_X6_distance_0 : en_all x_X6_distance_0 m_X6_distance_0 u_X6_distance_0 27 = true := by decide +kernel
theorem ct_X6_distance_0 {l : Launch} (hl : l.stackTraces = false) {PP : Int32 → Int32 → Prop} (hPP : en_P0 PP) (Ω : Nat → en_H → va_W → Prop) : en_Ctr l vwCl en_TY0 PP en_om0 Ω en_KT yX6_distance (Cond.code yX6_distance cX6_distance 4 (some .int) :: en_cw) (en_rm 0 (0, 0)) 0 k_X6_distance_0 :=
  en_main (X := x_X6_distance_0) (M := m_X6_distance_0) hPP en_f32_ok en_f64_ok hl (by decide +kernel) ⟨en_FTX6_ok, en_PTX6_ok, en_an, en_LTX6_ok, en_LLX6_ok, en_TTX6_ok hl, ⟨cw256, cw147⟩, en_ACX6_ok⟩ de_X6_distance ck_X6_distance_0
def tb_X3_isNearerCup : en_Tb := [
  (25, [(0, .iload_n 1, 1), (1, .aload_n 0, 1), (2, .getfield 27, 3), (5, .invokestatic 34, 3), (8, .iload_n 2, 1), (9, .aload_n 0, 1), (10, .getfield 27, 3), (13, .invokestatic 34, 3), (16, .if_icmp .ge 7, 3), (19, .iconst 1, 1), (20, .goto 4, 3), (23, .iconst 0, 1), (24, .ireturn, 1)])]
set_option maxRecDepth 40000 in
theorem de_X3_isNearerCup : en_De tb_X3_isNearerCup cX3_isNearerCup := by
  unfold en_De
  decide +kernel
def k_X3_isNearerCup_0 : en_K := (3, ([.inr (.inl 5), .inl ((-2147483648), 2147483647, 0, 0), .inl ((-2147483648), 2147483647, 0, 0)], []), [([.inr (.inl 5), .inl ((-2147483648), 2147483647, 0, 0), .inl ((-2147483648), 2147483647, 0, 0), .inl (0, 0, 0, 0)], []), ([.inr (.inl 5), .inl ((-2147483648), 2147483647, 0, 0), .inl ((-2147483648), 2147483647, 0, 0), .inl (1, 1, 0, 0)], [])], [], [5], (0, 0), [])
def u_X3_isNearerCup_0 : List en_U := []
def x_X3_isNearerCup_0 : en_Cx := ((en_KT, en_TY0, en_om0), en_FTX3, en_PTX3, [(34, false, 0, 0, 0, k_X6_distance_0)], en_LTX3, en_LLX3, en_TTX3, en_ACX3)
def m_X3_isNearerCup_0 : en_Mx := (k_X3_isNearerCup_0, 1, 3, (0, 2), tb_X3_isNearerCup, [])
set_option maxRecDepth 100000 in
theorem ck_X3_isNearerCup_0 : en_all x_X3_isNearerCup_0 m_X3_isNearerCup_0 u_X3_isNearerCup_0 15 = true := by decide +kernel
theorem ct_X3_isNearerCup_0 {l : Launch} (hl : l.stackTraces = false) {PP : Int32 → Int32 → Prop} (hPP : en_P0 PP) (Ω : Nat → en_H → va_W → Prop) : en_Ctr l vwCl en_TY0 PP en_om0 Ω en_KT yX3_isNearerCup (Cond.code yX3_isNearerCup cX3_isNearerCup 3 (some .boolean) :: en_cw) (en_rm 1 (0, 0)) 0 k_X3_isNearerCup_0 :=
  en_main (X := x_X3_isNearerCup_0) (M := m_X3_isNearerCup_0) hPP en_f32_ok en_f64_ok hl (by decide +kernel) ⟨en_FTX3_ok, en_PTX3_ok, en_ac (⟨yX6_distance, RX6, cX6_distance, 4, (some .int), by decide, ct_X6_distance_0 hl hPP Ω, fun h => Bool.noConfusion h, fun _ => gc_RX3_34s⟩) en_an, en_LTX3_ok, en_LLX3_ok, en_TTX3_ok hl, ⟨cw256, cw147⟩, en_ACX3_ok⟩ de_X3_isNearerCup ck_X3_isNearerCup_0
def tb_X3_outcomeAt : en_Tb := [
  (19, [(0, .iload_n 1, 1), (1, .aload_n 0, 1), (2, .getfield 27, 3), (5, .if_icmp .ne 8, 3), (8, .bipush 99, 2), (10, .goto 8, 3), (13, .aload_n 0, 1), (14, .iload_n 1, 1), (15, .invokevirtual 30, 3), (18, .ireturn, 1)])]
set_option maxRecDepth 40000 in
theorem de_X3_outcomeAt : en_De tb_X3_outcomeAt cX3_outcomeAt := by
  unfold en_De
  decide +kernel
def k_X3_outcomeAt_0 : en_K := (2, ([.inr (.inl 5), .inl ((-2147483648), 2147483647, 0, 0)], []), [([.inr (.inl 5), .inl ((-2147483648), 2147483647, 0, 0), .inl (0, 65535, 0, 0)], [])], [], [5, 6], (0, 0), [])
def u_X3_outcomeAt_0 : List en_U := []
def x_X3_outcomeAt_0 : en_Cx := ((en_KT, en_TY0, en_om0), en_FTX3, en_PTX3, [(30, true, 9, 0, 0, k_X3_kindOf_0)], en_LTX3, en_LLX3, en_TTX3, en_ACX3)
def m_X3_outcomeAt_0 : en_Mx := (k_X3_outcomeAt_0, 1, 2, (0, 1), tb_X3_outcomeAt, [])
set_option maxRecDepth 100000 in
theorem ck_X3_outcomeAt_0 : en_all x_X3_outcomeAt_0 m_X3_outcomeAt_0 u_X3_outcomeAt_0 11 = true := by decide +kernel
theorem ct_X3_outcomeAt_0 {l : Launch} (hl : l.stackTraces = false) {PP : Int32 → Int32 → Prop} (hPP : en_P0 PP) (Ω : Nat → en_H → va_W → Prop) : en_Ctr l vwCl en_TY0 PP en_om0 Ω en_KT yX3_outcomeAt (Cond.code yX3_outcomeAt cX3_outcomeAt 2 (some .char) :: en_cw) (en_rm 1 (0, 0)) 0 k_X3_outcomeAt_0 :=
  en_main (X := x_X3_outcomeAt_0) (M := m_X3_outcomeAt_0) hPP en_f32_ok en_f64_ok hl (by decide +kernel) ⟨en_FTX3_ok, en_PTX3_ok, en_ac (⟨yX3_kindOf, RX3, cX3_kindOf, 2, (some .char), by decide, ct_X3_kindOf_0 hl hPP Ω, fun _ => ⟨gc_RX3_30v, by decide, _, rfl, rfl⟩, fun h => Bool.noConfusion h⟩) en_an, en_LTX3_ok, en_LLX3_ok, en_TTX3_ok hl, ⟨cw256, cw147⟩, en_ACX3_ok⟩ de_X3_outcomeAt ck_X3_outcomeAt_0
def tb_X3_isOpen : en_Tb := [
  (29, [(0, .aload_n 0, 1), (1, .iload_n 1, 1), (2, .invokevirtual 41, 3), (5, .istore_n 2, 1), (6, .iload_n 2, 1), (7, .bipush 99, 2), (9, .if_icmp .eq 19, 3), (12, .iload_n 2, 1), (13, .bipush 102, 2), (15, .if_icmp .eq 13, 3), (18, .iload_n 2, 1), (19, .bipush 111, 2), (21, .if_icmp .eq 7, 3), (24, .iconst 1, 1), (25, .goto 4, 3), (28, .iconst 0, 1)]), 
  (30, [(29, .ireturn, 1)])]
set_option maxRecDepth 40000 in
theorem de_X3_isOpen : en_De tb_X3_isOpen cX3_isOpen := by
  unfold en_De
  decide +kernel
def k_X3_isOpen_0 : en_K := (2, ([.inr (.inl 5), .inl ((-2147483648), 2147483647, 0, 0)], []), [([.inr (.inl 5), .inl ((-2147483648), 2147483647, 0, 0), .inl (0, 0, 0, 0)], []), ([.inr (.inl 5), .inl ((-2147483648), 2147483647, 0, 0), .inl (1, 1, 0, 0)], [])], [], [5, 6], (0, 0), [])
def u_X3_isOpen_0 : List en_U := []
def x_X3_isOpen_0 : en_Cx := ((en_KT, en_TY0, en_om0), en_FTX3, en_PTX3, [(41, true, 9, 0, 1, k_X3_outcomeAt_0)], en_LTX3, en_LLX3, en_TTX3, en_ACX3)
def m_X3_isOpen_0 : en_Mx := (k_X3_isOpen_0, 2, 3, (0, 2), tb_X3_isOpen, [])
set_option maxRecDepth 100000 in
theorem ck_X3_isOpen_0 : en_all x_X3_isOpen_0 m_X3_isOpen_0 u_X3_isOpen_0 19 = true := by decide +kernel
theorem ct_X3_isOpen_0 {l : Launch} (hl : l.stackTraces = false) {PP : Int32 → Int32 → Prop} (hPP : en_P0 PP) (Ω : Nat → en_H → va_W → Prop) : en_Ctr l vwCl en_TY0 PP en_om0 Ω en_KT yX3_isOpen (Cond.code yX3_isOpen cX3_isOpen 3 (some .boolean) :: en_cw) (en_rm 2 (0, 0)) 0 k_X3_isOpen_0 :=
  en_main (X := x_X3_isOpen_0) (M := m_X3_isOpen_0) hPP en_f32_ok en_f64_ok hl (by decide +kernel) ⟨en_FTX3_ok, en_PTX3_ok, en_ac (⟨yX3_outcomeAt, RX3, cX3_outcomeAt, 2, (some .char), by decide, ct_X3_outcomeAt_0 hl hPP Ω, fun _ => ⟨gc_RX3_41v, by decide, _, rfl, rfl⟩, fun h => Bool.noConfusion h⟩) en_an, en_LTX3_ok, en_LLX3_ok, en_TTX3_ok hl, ⟨cw256, cw147⟩, en_ACX3_ok⟩ de_X3_isOpen ck_X3_isOpen_0
def tb_X3_isOpenForPenalty : en_Tb := [
  (28, [(0, .aload_n 0, 1), (1, .iload_n 1, 1), (2, .invokevirtual 30, 3), (5, .istore_n 2, 1), (6, .aload_n 0, 1), (7, .iload_n 1, 1), (8, .invokevirtual 44, 3), (11, .ifCond .eq 19, 3), (14, .iload_n 2, 1), (15, .bipush 121, 2), (17, .if_icmp .eq 13, 3), (20, .iload_n 2, 1), (21, .bipush 114, 2), (23, .if_icmp .eq 7, 3), (26, .iconst 1, 1), (27, .goto 4, 3)]), 
  (32, [(30, .iconst 0, 1), (31, .ireturn, 1)])]
set_option maxRecDepth 40000 in
theorem de_X3_isOpenForPenalty : en_De tb_X3_isOpenForPenalty cX3_isOpenForPenalty := by
  unfold en_De
  decide +kernel
def k_X3_isOpenForPenalty_0 : en_K := (2, ([.inr (.inl 5), .inl ((-2147483648), 2147483647, 0, 0)], []), [([.inr (.inl 5), .inl ((-2147483648), 2147483647, 0, 0), .inl (0, 0, 0, 0)], []), ([.inr (.inl 5), .inl ((-2147483648), 2147483647, 0, 0), .inl (1, 1, 0, 0)], [])], [], [5, 6], (0, 0), [])
def u_X3_isOpenForPenalty_0 : List en_U := []
def x_X3_isOpenForPenalty_0 : en_Cx := ((en_KT, en_TY0, en_om0), en_FTX3, en_PTX3, [(30, true, 9, 0, 0, k_X3_kindOf_0), (44, true, 9, 0, 2, k_X3_isOpen_0)], en_LTX3, en_LLX3, en_TTX3, en_ACX3)
def m_X3_isOpenForPenalty_0 : en_Mx := (k_X3_isOpenForPenalty_0, 3, 3, (0, 2), tb_X3_isOpenForPenalty, [])
set_option maxRecDepth 100000 in
theorem ck_X3_isOpenForPenalty_0 : en_all x_X3_isOpenForPenalty_0 m_X3_isOpenForPenalty_0 u_X3_isOpenForPenalty_0 20 = true := by decide +kernel
theorem ct_X3_isOpenForPenalty_0 {l : Launch} (hl : l.stackTraces = false) {PP : Int32 → Int32 → Prop} (hPP : en_P0 PP) (Ω : Nat → en_H → va_W → Prop) : en_Ctr l vwCl en_TY0 PP en_om0 Ω en_KT yX3_isOpenForPenalty (Cond.code yX3_isOpenForPenalty cX3_isOpenForPenalty 3 (some .boolean) :: en_cw) (en_rm 3 (0, 0)) 0 k_X3_isOpenForPenalty_0 :=
  en_main (X := x_X3_isOpenForPenalty_0) (M := m_X3_isOpenForPenalty_0) hPP en_f32_ok en_f64_ok hl (by decide +kernel) ⟨en_FTX3_ok, en_PTX3_ok, en_ac (⟨yX3_kindOf, RX3, cX3_kindOf, 2, (some .char), by decide, ct_X3_kindOf_0 hl hPP Ω, fun _ => ⟨gc_RX3_30v, by decide, _, rfl, rfl⟩, fun h => Bool.noConfusion h⟩) (en_ac (⟨yX3_isOpen, RX3, cX3_isOpen, 3, (some .boolean), by decide, ct_X3_isOpen_0 hl hPP Ω, fun _ => ⟨gc_RX3_44v, by decide, _, rfl, rfl⟩, fun h => Bool.noConfusion h⟩) en_an), en_LTX3_ok, en_LLX3_ok, en_TTX3_ok hl, ⟨cw256, cw147⟩, en_ACX3_ok⟩ de_X3_isOpenForPenalty ck_X3_isOpenForPenalty_0
def tb_X3_isAside : en_Tb := [
  (29, [(0, .aload_n 0, 1), (1, .iload_n 1, 1), (2, .invokevirtual 30, 3), (5, .bipush 121, 2), (7, .if_icmp .eq 33, 3), (10, .iload_n 1, 1), (11, .iload_n 2, 1), (12, .invokestatic 34, 3), (15, .iconst 4, 1), (16, .if_icmp .gt 24, 3), (19, .aload_n 0, 1), (20, .iload_n 2, 1), (21, .iload_n 1, 1), (22, .invokevirtual 51, 3), (25, .ifCond .ne 15, 3), (28, .aload_n 0, 1)]), 
  (42, [(29, .iload_n 2, 1), (30, .invokevirtual 54, 3), (33, .ifCond .eq 7, 3), (36, .iconst 1, 1), (37, .goto 4, 3), (40, .iconst 0, 1), (41, .ireturn, 1)])]
set_option maxRecDepth 40000 in
theorem de_X3_isAside : en_De tb_X3_isAside cX3_isAside := by
  unfold en_De
  decide +kernel
def k_X3_isAside_0 : en_K := (3, ([.inr (.inl 5), .inl ((-2147483648), 2147483647, 0, 0), .inl ((-2147483648), 2147483647, 0, 0)], []), [([.inr (.inl 5), .inl ((-2147483648), 2147483647, 0, 0), .inl ((-2147483648), 2147483647, 0, 0), .inl (0, 0, 0, 0)], []), ([.inr (.inl 5), .inl ((-2147483648), 2147483647, 0, 0), .inl ((-2147483648), 2147483647, 0, 0), .inl (1, 1, 0, 0)], [])], [], [5, 6], (0, 0), [])
def u_X3_isAside_0 : List en_U := []
def x_X3_isAside_0 : en_Cx := ((en_KT, en_TY0, en_om0), en_FTX3, en_PTX3, [(30, true, 9, 0, 0, k_X3_kindOf_0), (34, false, 0, 0, 0, k_X6_distance_0), (51, true, 9, 0, 1, k_X3_isNearerCup_0), (54, true, 9, 0, 3, k_X3_isOpenForPenalty_0)], en_LTX3, en_LLX3, en_TTX3, en_ACX3)
def m_X3_isAside_0 : en_Mx := (k_X3_isAside_0, 4, 3, (0, 2), tb_X3_isAside, [])
set_option maxRecDepth 100000 in
theorem ck_X3_isAside_0 : en_all x_X3_isAside_0 m_X3_isAside_0 u_X3_isAside_0 25 = true := by decide +kernel
theorem ct_X3_isAside_0 {l : Launch} (hl : l.stackTraces = false) {PP : Int32 → Int32 → Prop} (hPP : en_P0 PP) (Ω : Nat → en_H → va_W → Prop) : en_Ctr l vwCl en_TY0 PP en_om0 Ω en_KT yX3_isAside (Cond.code yX3_isAside cX3_isAside 3 (some .boolean) :: en_cw) (en_rm 4 (0, 0)) 0 k_X3_isAside_0 :=
  en_main (X := x_X3_isAside_0) (M := m_X3_isAside_0) hPP en_f32_ok en_f64_ok hl (by decide +kernel) ⟨en_FTX3_ok, en_PTX3_ok, en_ac (⟨yX3_kindOf, RX3, cX3_kindOf, 2, (some .char), by decide, ct_X3_kindOf_0 hl hPP Ω, fun _ => ⟨gc_RX3_30v, by decide, _, rfl, rfl⟩, fun h => Bool.noConfusion h⟩) (en_ac (⟨yX6_distance, RX6, cX6_distance, 4, (some .int), by decide, ct_X6_distance_0 hl hPP Ω, fun h => Bool.noConfusion h, fun _ => gc_RX3_34s⟩) (en_ac (⟨yX3_isNearerCup, RX3, cX3_isNearerCup, 3, (some .boolean), by decide, ct_X3_isNearerCup_0 hl hPP Ω, fun _ => ⟨gc_RX3_51v, by decide, _, rfl, rfl⟩, fun h => Bool.noConfusion h⟩) (en_ac (⟨yX3_isOpenForPenalty, RX3, cX3_isOpenForPenalty, 3, (some .boolean), by decide, ct_X3_isOpenForPenalty_0 hl hPP Ω, fun _ => ⟨gc_RX3_54v, by decide, _, rfl, rfl⟩, fun h => Bool.noConfusion h⟩) en_an))), en_LTX3_ok, en_LLX3_ok, en_TTX3_ok hl, ⟨cw256, cw147⟩, en_ACX3_ok⟩ de_X3_isAside ck_X3_isAside_0
def tb_X6_aside : en_Tb := [
  (28, [(0, .aload_n 0, 1), (1, .iload_n 1, 1), (2, .invokevirtual 127, 3), (5, .iload_n 2, 1), (6, .iload_n 3, 1), (7, .invokestatic 114, 3), (10, .aload_n 0, 1), (11, .invokevirtual 167, 3), (14, .aload_n 0, 1), (15, .getfield 18, 3), (18, .iload_n 1, 1), (19, .aaload, 1), (20, .getfield 185, 3), (23, .astore 4, 2), (25, .aload 4, 2), (27, .invokevirtual 294, 3)]), 
  (63, [(30, .ifCond .eq 28, 3), (33, .aload_n 0, 1), (34, .getfield 11, 3), (37, .aload_n 0, 1), (38, .getfield 170, 3), (41, .aaload, 1), (42, .aload 4, 2), (44, .getfield 211, 3), (47, .iload_n 2, 1), (48, .iload_n 3, 1), (49, .invokestatic 85, 3), (52, .invokevirtual 305, 3), (55, .ifCond .ne 14, 3), (58, .new 74, 3), (61, .dup, 1), (62, .ldc_w 308, 3)]), 
  (81, [(65, .invokespecial 78, 3), (68, .athrow, 1), (69, .aload_n 0, 1), (70, .aload 4, 2), (72, .iload_n 2, 1), (73, .iload_n 3, 1), (74, .invokestatic 85, 3), (77, .invokevirtual 288, 3), (80, .ireturn, 1)])]
set_option maxRecDepth 40000 in
theorem de_X6_aside : en_De tb_X6_aside cX6_aside := by
  unfold en_De
  decide +kernel
def k_X6_aside_0 : en_K := (4, ([.inr (.inl 0), .inl ((-2147483648), 2147483647, 0, 0), .inl ((-2147483648), 2147483647, 0, 0), .inl ((-2147483648), 2147483647, 0, 0)], []), [([.inr (.inl 0), .inl (0, 5, 0, 0), .inl (0, 29, 0, 0), .inl (0, 19, 0, 0), .inl ((-2147483648), 2147483647, 0, 0)], [])], [(4, 1), (8, 0), (8, 1), (8, 2), (8, 6), (8, 7), (8, 9)], [0, 1, 2, 4, 5, 6, 7, 8], (4, 24), [1, 2, 3])
def u_X6_aside_0 : List en_U := []
def x_X6_aside_0 : en_Cx := ((en_KT, en_TY0, en_om0), en_FTX6, en_PTX6, [(85, false, 0, 0, 0, k_X6_cellAt_0), (114, false, 0, 4, 1, k_X6_needCell_0), (127, true, 12, 4, 0, k_X6_needPlayer_0), (167, true, 12, 4, 0, k_X6_needRound_0), (288, true, 12, 0, 1, k_X6_relieveWithPenalty_0), (294, true, 6, 0, 0, k_X0_isAtRest_0), (305, true, 9, 0, 4, k_X3_isAside_0)], en_LTX6, en_LLX6, en_TTX6, en_ACX6)
def m_X6_aside_0 : en_Mx := (k_X6_aside_0, 5, 5, (0, 0), tb_X6_aside, [])
set_option maxRecDepth 100000 in
theorem ck_X6_aside_0 : en_all x_X6_aside_0 m_X6_aside_0 u_X6_aside_0 39 = true := by decide +kernel
theorem ct_X6_aside_0 {l : Launch} (hl : l.stackTraces = false) {PP : Int32 → Int32 → Prop} (hPP : en_P0 PP) (Ω : Nat → en_H → va_W → Prop) : en_Ctr l vwCl en_TY0 PP en_om0 Ω en_KT yX6_aside (Cond.code yX6_aside cX6_aside 5 (some .int) :: en_cw) (en_rm 5 (4, 24)) 0 k_X6_aside_0 :=
  en_main (X := x_X6_aside_0) (M := m_X6_aside_0) hPP en_f32_ok en_f64_ok hl (by decide +kernel) ⟨en_FTX6_ok, en_PTX6_ok, en_ac (⟨yX6_cellAt, RX6, cX6_cellAt, 2, (some .int), by decide, ct_X6_cellAt_0 hl hPP Ω, fun h => Bool.noConfusion h, fun _ => gc_RX6_85s⟩) (en_ac (⟨yX6_needCell, RX6, cX6_needCell, 2, none, by decide, ct_X6_needCell_0 hl hPP Ω, fun h => Bool.noConfusion h, fun _ => gc_RX6_114s⟩) (en_ac (⟨yX6_needPlayer, RX6, cX6_needPlayer, 2, none, by decide, ct_X6_needPlayer_0 hl hPP Ω, fun _ => ⟨gc_RX6_127v, by decide, _, rfl, rfl⟩, fun h => Bool.noConfusion h⟩) (en_ac (⟨yX6_needRound, RX6, cX6_needRound, 1, none, by decide, ct_X6_needRound_0 hl hPP Ω, fun _ => ⟨gc_RX6_167v, by decide, _, rfl, rfl⟩, fun h => Bool.noConfusion h⟩) (en_ac (⟨yX6_relieveWithPenalty, RX6, cX6_relieveWithPenalty, 3, (some .int), by decide, ct_X6_relieveWithPenalty_0 hl hPP Ω, fun _ => ⟨gc_RX6_288v, by decide, _, rfl, rfl⟩, fun h => Bool.noConfusion h⟩) (en_ac (⟨yX0_isAtRest, RX0, cX0_isAtRest, 1, (some .boolean), by decide, ct_X0_isAtRest_0 hl hPP Ω, fun _ => ⟨gc_RX6_294v, by decide, _, rfl, rfl⟩, fun h => Bool.noConfusion h⟩) (en_ac (⟨yX3_isAside, RX3, cX3_isAside, 3, (some .boolean), by decide, ct_X3_isAside_0 hl hPP Ω, fun _ => ⟨gc_RX6_305v, by decide, _, rfl, rfl⟩, fun h => Bool.noConfusion h⟩) en_an)))))), en_LTX6_ok, en_LLX6_ok, en_TTX6_ok hl, ⟨cw256, cw147⟩, en_ACX6_ok⟩ de_X6_aside ck_X6_aside_0
def tb_X0_isPlayable : en_Tb := [
  (24, [(0, .aload_n 0, 1), (1, .getfield 9, 3), (4, .bipush 110, 2), (6, .if_icmp .eq 12, 3), (9, .aload_n 0, 1), (10, .getfield 9, 3), (13, .bipush 108, 2), (15, .if_icmp .ne 7, 3), (18, .iconst 1, 1), (19, .goto 4, 3), (22, .iconst 0, 1), (23, .ireturn, 1)])]
set_option maxRecDepth 40000 in
theorem de_X0_isPlayable : en_De tb_X0_isPlayable cX0_isPlayable := by
  unfold en_De
  decide +kernel
def k_X0_isPlayable_0 : en_K := (1, ([.inr (.inl 8)], []), [([.inr (.inl 8), .inl (0, 0, 0, 0)], []), ([.inr (.inl 8), .inl (1, 1, 0, 0)], [])], [], [8], (0, 0), [])
def u_X0_isPlayable_0 : List en_U := []
def x_X0_isPlayable_0 : en_Cx := ((en_KT, en_TY0, en_om0), en_FTX0, en_PTX0, [], en_LTX0, en_LLX0, en_TTX0, en_ACX0)
def m_X0_isPlayable_0 : en_Mx := (k_X0_isPlayable_0, 0, 1, (0, 2), tb_X0_isPlayable, [])
set_option maxRecDepth 100000 in
theorem ck_X0_isPlayable_0 : en_all x_X0_isPlayable_0 m_X0_isPlayable_0 u_X0_isPlayable_0 14 = true := by decide +kernel
theorem ct_X0_isPlayable_0 {l : Launch} (hl : l.stackTraces = false) {PP : Int32 → Int32 → Prop} (hPP : en_P0 PP) (Ω : Nat → en_H → va_W → Prop) : en_Ctr l vwCl en_TY0 PP en_om0 Ω en_KT yX0_isPlayable (Cond.code yX0_isPlayable cX0_isPlayable 1 (some .boolean) :: en_cw) (en_rm 0 (0, 0)) 0 k_X0_isPlayable_0 :=
  en_main (X := x_X0_isPlayable_0) (M := m_X0_isPlayable_0) hPP en_f32_ok en_f64_ok hl (by decide +kernel) ⟨en_FTX0_ok, en_PTX0_ok, en_an, en_LTX0_ok, en_LLX0_ok, en_TTX0_ok hl, ⟨cw256, cw147⟩, en_ACX0_ok⟩ de_X0_isPlayable ck_X0_isPlayable_0
