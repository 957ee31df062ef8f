def tb_X3_reachFrom : en_Tb := [
  (74, [(0, .iload_n 2, 1), (1, .ifCond .eq 6, 3), (4, .bipush 12, 2), (6, .ireturn, 1), (7, .aload_n 0, 1), (8, .iload_n 1, 1), (9, .invokevirtual 30, 3), (12, .lookupswitch 59 #[(98, 55), (100, 57), (103, 52), (114, 57), (121, 57)], 52), (64, .bipush 6, 2), (66, .ireturn, 1), (67, .iconst 5, 1), (68, .ireturn, 1), (69, .iconst 4, 1), (70, .ireturn, 1), (71, .bipush 10, 2), (73, .ireturn, 1)])]
set_option maxRecDepth 40000 in
theorem de_X3_reachFrom : en_De tb_X3_reachFrom cX3_reachFrom := by
  unfold en_De
  decide +kernel
def k_X3_reachFrom_0 : en_K := (3, ([.inr (.inl 5), .inl ((-2147483648), 2147483647, 0, 0), .inl (0, 1, 0, 0)], []), [([.inr (.inl 5), .inl ((-2147483648), 2147483647, 0, 0), .inl (0, 0, 0, 0), .inl (10, 10, 0, 0)], []), ([.inr (.inl 5), .inl ((-2147483648), 2147483647, 0, 0), .inl (1, 1, 0, 0), .inl (12, 12, 0, 0)], [(6, 2, 0, 0, 0, 0)]), ([.inr (.inl 5), .inl ((-2147483648), 2147483647, 0, 0), .inl (0, 0, 0, 0), .inl (4, 4, 0, 0)], []), ([.inr (.inl 5), .inl ((-2147483648), 2147483647, 0, 0), .inl (0, 0, 0, 0), .inl (5, 5, 0, 0)], []), ([.inr (.inl 5), .inl ((-2147483648), 2147483647, 0, 0), .inl (0, 0, 0, 0), .inl (6, 6, 0, 0)], [])], [], [5, 6], (0, 0), [])
def u_X3_reachFrom_0 : List en_U := []
def x_X3_reachFrom_0 : en_Cx := ((en_KT, en_TY0, en_om0), en_FTX3, en_PTX3, [(30, true, 9, 0, 0, k_X3_kindOf_0)], en_LTX3, en_LLX3, en_TTX3, en_ACX3)
def m_X3_reachFrom_0 : en_Mx := (k_X3_reachFrom_0, 1, 3, (0, 0), tb_X3_reachFrom, [])
set_option maxRecDepth 100000 in
theorem ck_X3_reachFrom_0 : en_all x_X3_reachFrom_0 m_X3_reachFrom_0 u_X3_reachFrom_0 11 = true := by decide +kernel
theorem ct_X3_reachFrom_0 {l : Launch} (hl : l.stackTraces = false) {PP : Int32 → Int32 → Prop} (hPP : en_P0 PP) (Ω : Nat → en_H → va_W → Prop) : en_Ctr l vwCl en_TY0 PP en_om0 Ω en_KT yX3_reachFrom (Cond.code yX3_reachFrom cX3_reachFrom 3 (some .int) :: en_cw) (en_rm 1 (0, 0)) 0 k_X3_reachFrom_0 :=
  en_main (X := x_X3_reachFrom_0) (M := m_X3_reachFrom_0) hPP en_f32_ok en_f64_ok hl (by decide +kernel) ⟨en_FTX3_ok, en_PTX3_ok, en_ac (⟨yX3_kindOf, RX3, cX3_kindOf, 2, (some .char), by decide, ct_X3_kindOf_0 hl hPP Ω, fun _ => ⟨gc_RX3_30v, by decide, _, rfl, rfl⟩, fun h => Bool.noConfusion h⟩) en_an, en_LTX3_ok, en_LLX3_ok, en_TTX3_ok hl, ⟨cw256, cw147⟩, en_ACX3_ok⟩ de_X3_reachFrom ck_X3_reachFrom_0
def tb_X3_isAim : en_Tb := [
  (27, [(0, .aload_n 0, 1), (1, .iload_n 1, 1), (2, .iload_n 2, 1), (3, .invokevirtual 37, 3), (6, .istore 4, 2), (8, .iload_n 3, 1), (9, .iload_n 1, 1), (10, .if_icmp .eq 20, 3), (13, .iload_n 1, 1), (14, .iload_n 3, 1), (15, .invokestatic 34, 3), (18, .iload 4, 2), (20, .iload 4, 2), (22, .imul, 1), (23, .if_icmp .gt 7, 3), (26, .iconst 1, 1)]), 
  (32, [(27, .goto 4, 3), (30, .iconst 0, 1), (31, .ireturn, 1)])]
set_option maxRecDepth 40000 in
theorem de_X3_isAim : en_De tb_X3_isAim cX3_isAim := by
  unfold en_De
  decide +kernel
def k_X3_isAim_0 : en_K := (4, ([.inr (.inl 5), .inl ((-2147483648), 2147483647, 0, 0), .inl (0, 1, 0, 0), .inl ((-2147483648), 2147483647, 0, 0)], []), [([.inr (.inl 5), .inl ((-2147483648), 2147483647, 0, 0), .inl (0, 1, 0, 0), .inl ((-2147483648), 2147483647, 0, 0), .inl (0, 0, 0, 0)], []), ([.inr (.inl 5), .inl ((-2147483648), 2147483647, 0, 0), .inl (0, 1, 0, 0), .inl ((-2147483648), 2147483647, 0, 0), .inl (1, 1, 0, 0)], [(12, 3, 1, 0, 0, 0)])], [], [5, 6], (0, 0), [])
def u_X3_isAim_0 : List en_U := []
def x_X3_isAim_0 : en_Cx := ((en_KT, en_TY0, en_om0), en_FTX3, en_PTX3, [(34, false, 0, 0, 0, k_X6_distance_0), (37, true, 9, 0, 1, k_X3_reachFrom_0)], en_LTX3, en_LLX3, en_TTX3, en_ACX3)
def m_X3_isAim_0 : en_Mx := (k_X3_isAim_0, 2, 5, (0, 2), tb_X3_isAim, [])
set_option maxRecDepth 100000 in
theorem ck_X3_isAim_0 : en_all x_X3_isAim_0 m_X3_isAim_0 u_X3_isAim_0 21 = true := by decide +kernel
theorem ct_X3_isAim_0 {l : Launch} (hl : l.stackTraces = false) {PP : Int32 → Int32 → Prop} (hPP : en_P0 PP) (Ω : Nat → en_H → va_W → Prop) : en_Ctr l vwCl en_TY0 PP en_om0 Ω en_KT yX3_isAim (Cond.code yX3_isAim cX3_isAim 5 (some .boolean) :: en_cw) (en_rm 2 (0, 0)) 0 k_X3_isAim_0 :=
  en_main (X := x_X3_isAim_0) (M := m_X3_isAim_0) hPP en_f32_ok en_f64_ok hl (by decide +kernel) ⟨en_FTX3_ok, en_PTX3_ok, en_ac (⟨yX6_distance, RX6, cX6_distance, 4, (some .int), by decide, ct_X6_distance_0 hl hPP Ω, fun h => Bool.noConfusion h, fun _ => gc_RX3_34s⟩) (en_ac (⟨yX3_reachFrom, RX3, cX3_reachFrom, 3, (some .int), by decide, ct_X3_reachFrom_0 hl hPP Ω, fun _ => ⟨gc_RX3_37v, by decide, _, rfl, rfl⟩, fun h => Bool.noConfusion h⟩) en_an), en_LTX3_ok, en_LLX3_ok, en_TTX3_ok hl, ⟨cw256, cw147⟩, en_ACX3_ok⟩ de_X3_isAim ck_X3_isAim_0
def tb_X6_needAim : en_Tb := [
  (32, [(0, .aload_n 1, 1), (1, .invokevirtual 414, 3), (4, .ifCond .eq 27, 3), (7, .aload_n 0, 1), (8, .getfield 11, 3), (11, .aload_n 0, 1), (12, .getfield 170, 3), (15, .aaload, 1), (16, .aload_n 1, 1), (17, .getfield 211, 3), (20, .aload_n 1, 1), (21, .getfield 224, 3), (24, .iload_n 2, 1), (25, .invokevirtual 259, 3), (28, .ifCond .ne 14, 3), (31, .new 74, 3)]), 
  (43, [(34, .dup, 1), (35, .ldc_w 578, 3), (38, .invokespecial 78, 3), (41, .athrow, 1), (42, .return_, 1)])]
set_option maxRecDepth 40000 in
theorem de_X6_needAim : en_De tb_X6_needAim cX6_needAim := by
  unfold en_De
  decide +kernel
def k_X6_needAim_0 : en_K := (3, ([.inr (.inl 0), .inr (.inl 8), .inl ((-2147483648), 2147483647, 0, 0)], []), [([.inr (.inl 0), .inr (.inl 8), .inl ((-2147483648), 2147483647, 0, 0)], [])], [], [0, 1, 5, 6, 8], (1, 6), [2])
def u_X6_needAim_0 : List en_U := []
def x_X6_needAim_0 : en_Cx := ((en_KT, en_TY0, en_om0), en_FTX6, en_PTX6, [(259, true, 9, 0, 2, k_X3_isAim_0), (414, true, 6, 0, 0, k_X0_isPlayable_0)], en_LTX6, en_LLX6, en_TTX6, en_ACX6)
def m_X6_needAim_0 : en_Mx := (k_X6_needAim_0, 3, 3, (4, 0), tb_X6_needAim, [])
set_option maxRecDepth 100000 in
theorem ck_X6_needAim_0 : en_all x_X6_needAim_0 m_X6_needAim_0 u_X6_needAim_0 19 = true := by decide +kernel
theorem ct_X6_needAim_0 {l : Launch} (hl : l.stackTraces = false) {PP : Int32 → Int32 → Prop} (hPP : en_P0 PP) (Ω : Nat → en_H → va_W → Prop) : en_Ctr l vwCl en_TY0 PP en_om0 Ω en_KT yX6_needAim (Cond.code yX6_needAim cX6_needAim 3 none :: en_cw) (en_rm 3 (1, 6)) 4 k_X6_needAim_0 :=
  en_main (X := x_X6_needAim_0) (M := m_X6_needAim_0) hPP en_f32_ok en_f64_ok hl (by decide +kernel) ⟨en_FTX6_ok, en_PTX6_ok, en_ac (⟨yX3_isAim, RX3, cX3_isAim, 5, (some .boolean), by decide, ct_X3_isAim_0 hl hPP Ω, fun _ => ⟨gc_RX6_259v, by decide, _, rfl, rfl⟩, fun h => Bool.noConfusion h⟩) (en_ac (⟨yX0_isPlayable, RX0, cX0_isPlayable, 1, (some .boolean), by decide, ct_X0_isPlayable_0 hl hPP Ω, fun _ => ⟨gc_RX6_414v, by decide, _, rfl, rfl⟩, fun h => Bool.noConfusion h⟩) en_an), en_LTX6_ok, en_LLX6_ok, en_TTX6_ok hl, ⟨cw256, cw147⟩, en_ACX6_ok⟩ de_X6_needAim ck_X6_needAim_0
def tb_X3_spreadFrom : en_Tb := [
  (67, [(0, .iload_n 2, 1), (1, .ifCond .eq 5, 3), (4, .iconst 1, 1), (5, .ireturn, 1), (6, .aload_n 0, 1), (7, .iload_n 1, 1), (8, .invokevirtual 30, 3), (11, .lookupswitch 59 #[(100, 57), (103, 41), (114, 57), (121, 57)], 41), (52, .iload_n 1, 1), (53, .iload_n 3, 1), (54, .invokestatic 34, 3), (57, .bipush 9, 2), (59, .if_icmp .gt 7, 3), (62, .iconst 0, 1), (63, .goto 4, 3), (66, .iconst 1, 1)]), 
  (72, [(67, .ireturn, 1), (68, .iconst 2, 1), (69, .ireturn, 1), (70, .iconst 1, 1), (71, .ireturn, 1)])]
set_option maxRecDepth 40000 in
theorem de_X3_spreadFrom : en_De tb_X3_spreadFrom cX3_spreadFrom := by
  unfold en_De
  decide +kernel
def k_X3_spreadFrom_0 : en_K := (4, ([.inr (.inl 5), .inl ((-2147483648), 2147483647, 0, 0), .inl (0, 1, 0, 0), .inl ((-2147483648), 2147483647, 0, 0)], []), [([.inr (.inl 5), .inl ((-2147483648), 2147483647, 0, 0), .inl (0, 0, 0, 0), .inl ((-2147483648), 2147483647, 0, 0), .inl (0, 0, 0, 0)], []), ([.inr (.inl 5), .inl ((-2147483648), 2147483647, 0, 0), .inl (0, 1, 0, 0), .inl ((-2147483648), 2147483647, 0, 0), .inl (1, 1, 0, 0)], []), ([.inr (.inl 5), .inl ((-2147483648), 2147483647, 0, 0), .inl (0, 0, 0, 0), .inl ((-2147483648), 2147483647, 0, 0), .inl (2, 2, 0, 0)], [])], [], [5, 6], (0, 0), [])
def u_X3_spreadFrom_0 : List en_U := []
def x_X3_spreadFrom_0 : en_Cx := ((en_KT, en_TY0, en_om0), en_FTX3, en_PTX3, [(30, true, 9, 0, 0, k_X3_kindOf_0), (34, false, 0, 0, 0, k_X6_distance_0)], en_LTX3, en_LLX3, en_TTX3, en_ACX3)
def m_X3_spreadFrom_0 : en_Mx := (k_X3_spreadFrom_0, 1, 4, (0, 0), tb_X3_spreadFrom, [])
set_option maxRecDepth 100000 in
theorem ck_X3_spreadFrom_0 : en_all x_X3_spreadFrom_0 m_X3_spreadFrom_0 u_X3_spreadFrom_0 17 = true := by decide +kernel
theorem ct_X3_spreadFrom_0 {l : Launch} (hl : l.stackTraces = false) {PP : Int32 → Int32 → Prop} (hPP : en_P0 PP) (Ω : Nat → en_H → va_W → Prop) : en_Ctr l vwCl en_TY0 PP en_om0 Ω en_KT yX3_spreadFrom (Cond.code yX3_spreadFrom cX3_spreadFrom 4 (some .int) :: en_cw) (en_rm 1 (0, 0)) 0 k_X3_spreadFrom_0 :=
  en_main (X := x_X3_spreadFrom_0) (M := m_X3_spreadFrom_0) hPP en_f32_ok en_f64_ok hl (by decide +kernel) ⟨en_FTX3_ok, en_PTX3_ok, en_ac (⟨yX3_kindOf, RX3, cX3_kindOf, 2, (some .char), by decide, ct_X3_kindOf_0 hl hPP Ω, fun _ => ⟨gc_RX3_30v, by decide, _, rfl, rfl⟩, fun h => Bool.noConfusion h⟩) (en_ac (⟨yX6_distance, RX6, cX6_distance, 4, (some .int), by decide, ct_X6_distance_0 hl hPP Ω, fun h => Bool.noConfusion h, fun _ => gc_RX3_34s⟩) en_an), en_LTX3_ok, en_LLX3_ok, en_TTX3_ok hl, ⟨cw256, cw147⟩, en_ACX3_ok⟩ de_X3_spreadFrom ck_X3_spreadFrom_0
def tb_X6_odds : en_Tb := [
  (33, [(0, .aload_n 0, 1), (1, .iload_n 1, 1), (2, .invokevirtual 127, 3), (5, .iload_n 2, 1), (6, .iload_n 3, 1), (7, .invokestatic 114, 3), (10, .iload 4, 2), (12, .invokestatic 99, 3), (15, .ifCond .ne 27, 3), (18, .iload 4, 2), (20, .bipush 99, 2), (22, .if_icmp .eq 20, 3), (25, .iload 4, 2), (27, .bipush 102, 2), (29, .if_icmp .eq 13, 3), (32, .new 49, 3)]), 
  (62, [(35, .dup, 1), (36, .ldc 242, 2), (38, .invokespecial 53, 3), (41, .athrow, 1), (42, .aload_n 0, 1), (43, .invokevirtual 167, 3), (46, .aload_n 0, 1), (47, .getfield 18, 3), (50, .iload_n 1, 1), (51, .aaload, 1), (52, .getfield 185, 3), (55, .astore 5, 2), (57, .aload_n 0, 1), (58, .aload 5, 2), (60, .iload_n 2, 1), (61, .iload_n 3, 1)]), 
  (94, [(62, .invokestatic 85, 3), (65, .invokevirtual 189, 3), (68, .aload_n 0, 1), (69, .getfield 11, 3), (72, .aload_n 0, 1), (73, .getfield 170, 3), (76, .aaload, 1), (77, .astore 6, 2), (79, .aload 6, 2), (81, .aload 5, 2), (83, .getfield 211, 3), (86, .aload 5, 2), (88, .getfield 224, 3), (91, .iload_n 2, 1), (92, .iload_n 3, 1), (93, .invokestatic 85, 3)]), 
  (126, [(96, .invokevirtual 244, 3), (99, .istore 7, 2), (101, .iconst 0, 1), (102, .istore 8, 2), (104, .iload 7, 2), (106, .ineg, 1), (107, .istore 9, 2), (109, .iload 9, 2), (111, .iload 7, 2), (113, .if_icmp .gt 51, 3), (116, .iload 7, 2), (118, .ineg, 1), (119, .istore 10, 2), (121, .iload 10, 2), (123, .iload 7, 2), (125, .if_icmp .gt 33, 3)]), 
  (162, [(128, .aload 6, 2), (130, .iload_n 2, 1), (131, .iload 10, 2), (133, .iadd, 1), (134, .iload_n 3, 1), (135, .iload 9, 2), (137, .iadd, 1), (138, .invokestatic 247, 3), (141, .invokevirtual 231, 3), (144, .iload 4, 2), (146, .if_icmp .ne 6, 3), (149, .iinc 8 1, 3), (152, .iinc 10 1, 3), (155, .goto (-34), 3), (158, .iinc 9 1, 3), (161, .goto (-52), 3)]), 
  (167, [(164, .iload 8, 2), (166, .ireturn, 1)])]
set_option maxRecDepth 40000 in
theorem de_X6_odds : en_De tb_X6_odds cX6_odds := by
  unfold en_De
  decide +kernel
def k_X6_odds_0 : en_K := (5, ([.inr (.inl 0), .inl ((-2147483648), 2147483647, 0, 0), .inl ((-2147483648), 2147483647, 0, 0), .inl ((-2147483648), 2147483647, 0, 0), .inl (0, 65535, 0, 0)], []), [([.inr (.inl 0), .inl (0, 5, 0, 0), .inl (0, 29, 0, 0), .inl (0, 19, 0, 0), .inl (46, 121, 0, 0), .inl ((-2147483648), 2147483647, 0, 0)], [])], [], [0, 1, 2, 5, 6, 7, 8], (4, 24), [0, 1, 2, 3])
def u_X6_odds_0 : List en_U := [
  (109, ([.inr (.inl 0), .inl (0, 5, 0, 0), .inl (0, 29, 0, 0), .inl (0, 19, 0, 0), .inl (46, 121, 0, 0), .inl ((-2), 3, 0, 0), .inl ((-2147483648), 2147483647, 0, 0), .inl (0, 2, 0, 0), .inr (.inl 5), .inr (.inl 8)], []), [(0, 0), (1, 1), (2, 2), (3, 3), (4, 4), (9, 5), (8, 6), (7, 7), (6, 8), (5, 9)], (4, 24), [((-17), 5)], 85), 
  (121, ([.inr (.inl 0), .inl (0, 5, 0, 0), .inl (0, 29, 0, 0), .inl (0, 19, 0, 0), .inl (46, 121, 0, 0), .inl ((-2), 3, 0, 0), .inl ((-2), 2, 0, 0), .inl ((-2147483648), 2147483647, 0, 0), .inl (0, 2, 0, 0), .inr (.inl 5), .inr (.inl 8)], []), [(0, 0), (1, 1), (2, 2), (3, 3), (4, 4), (10, 5), (9, 6), (8, 7), (7, 8), (6, 9), (5, 10)], (4, 24), [((-17), 6), ((-2), 5)], 79)]
def x_X6_odds_0 : en_Cx := ((en_KT, en_TY0, en_om0), en_FTX6, en_PTX6, [(85, false, 0, 0, 0, k_X6_cellAt_0), (99, false, 0, 0, 0, k_X6_isKind_0), (114, false, 0, 4, 1, k_X6_needCell_0), (127, true, 12, 4, 0, k_X6_needPlayer_0), (167, true, 12, 4, 0, k_X6_needRound_0), (189, true, 12, 4, 3, k_X6_needAim_0), (231, true, 9, 0, 1, k_X3_outcomeAt_0), (244, true, 9, 0, 1, k_X3_spreadFrom_0), (247, false, 0, 0, 1, k_X6_cellOrNone_0)], en_LTX6, en_LLX6, en_TTX6, en_ACX6)
def m_X6_odds_0 : en_Mx := (k_X6_odds_0, 4, 11, (0, 0), tb_X6_odds, [])
set_option maxRecDepth 100000 in
theorem ck_X6_odds_0 : en_all x_X6_odds_0 m_X6_odds_0 u_X6_odds_0 53 = true := by decide +kernel
theorem ct_X6_odds_0 {l : Launch} (hl : l.stackTraces = false) {PP : Int32 → Int32 → Prop} (hPP : en_P0 PP) (Ω : Nat → en_H → va_W → Prop) : en_Ctr l vwCl en_TY0 PP en_om0 Ω en_KT yX6_odds (Cond.code yX6_odds cX6_odds 11 (some .int) :: en_cw) (en_rm 4 (4, 24)) 0 k_X6_odds_0 :=
  en_main (X := x_X6_odds_0) (M := m_X6_odds_0) hPP en_f32_ok en_f64_ok hl (by decide +kernel) ⟨en_FTX6_ok, en_PTX6_ok, en_ac (⟨yX6_cellAt, RX6, cX6_cellAt, 2, (some .int), by decide, ct_X6_cellAt_0 hl hPP Ω, fun h => Bool.noConfusion h, fun _ => gc_RX6_85s⟩) (en_ac (⟨yX6_isKind, RX6, cX6_isKind, 1, (some .boolean), by decide, ct_X6_isKind_0 hl hPP Ω, fun h => Bool.noConfusion h, fun _ => gc_RX6_99s⟩) (en_ac (⟨yX6_needCell, RX6, cX6_needCell, 2, none, by decide, ct_X6_needCell_0 hl hPP Ω, fun h => Bool.noConfusion h, fun _ => gc_RX6_114s⟩) (en_ac (⟨yX6_needPlayer, RX6, cX6_needPlayer, 2, none, by decide, ct_X6_needPlayer_0 hl hPP Ω, fun _ => ⟨gc_RX6_127v, by decide, _, rfl, rfl⟩, fun h => Bool.noConfusion h⟩) (en_ac (⟨yX6_needRound, RX6, cX6_needRound, 1, none, by decide, ct_X6_needRound_0 hl hPP Ω, fun _ => ⟨gc_RX6_167v, by decide, _, rfl, rfl⟩, fun h => Bool.noConfusion h⟩) (en_ac (⟨yX6_needAim, RX6, cX6_needAim, 3, none, by decide, ct_X6_needAim_0 hl hPP Ω, fun _ => ⟨gc_RX6_189v, by decide, _, rfl, rfl⟩, fun h => Bool.noConfusion h⟩) (en_ac (⟨yX3_outcomeAt, RX3, cX3_outcomeAt, 2, (some .char), by decide, ct_X3_outcomeAt_0 hl hPP Ω, fun _ => ⟨gc_RX6_231v, by decide, _, rfl, rfl⟩, fun h => Bool.noConfusion h⟩) (en_ac (⟨yX3_spreadFrom, RX3, cX3_spreadFrom, 4, (some .int), by decide, ct_X3_spreadFrom_0 hl hPP Ω, fun _ => ⟨gc_RX6_244v, by decide, _, rfl, rfl⟩, fun h => Bool.noConfusion h⟩) (en_ac (⟨yX6_cellOrNone, RX6, cX6_cellOrNone, 2, (some .int), by decide, ct_X6_cellOrNone_0 hl hPP Ω, fun h => Bool.noConfusion h, fun _ => gc_RX6_247s⟩) en_an)))))))), en_LTX6_ok, en_LLX6_ok, en_TTX6_ok hl, ⟨cw256, cw147⟩, en_ACX6_ok⟩ de_X6_odds ck_X6_odds_0
def tb_X6_needRoundOver : en_Tb := [
  (19, [(0, .aload_n 0, 1), (1, .invokevirtual 440, 3), (4, .ifCond .ne 14, 3), (7, .new 177, 3), (10, .dup, 1), (11, .ldc_w 582, 3), (14, .invokespecial 181, 3), (17, .athrow, 1), (18, .return_, 1)])]
set_option maxRecDepth 40000 in
theorem de_X6_needRoundOver : en_De tb_X6_needRoundOver cX6_needRoundOver := by
  unfold en_De
  decide +kernel
def k_X6_needRoundOver_0 : en_K := (1, ([.inr (.inl 0)], []), [([.inr (.inl 0)], [])], [], [0], (1, 6), [4])
def u_X6_needRoundOver_0 : List en_U := []
def x_X6_needRoundOver_0 : en_Cx := ((en_KT, en_TY0, en_om0), en_FTX6, en_PTX6, [(440, true, 12, 0, 0, k_X6_isRoundOver_0)], en_LTX6, en_LLX6, en_TTX6, en_ACX6)
def m_X6_needRoundOver_0 : en_Mx := (k_X6_needRoundOver_0, 1, 1, (4, 0), tb_X6_needRoundOver, [])
set_option maxRecDepth 100000 in
theorem ck_X6_needRoundOver_0 : en_all x_X6_needRoundOver_0 m_X6_needRoundOver_0 u_X6_needRoundOver_0 7 = true := by decide +kernel
theorem ct_X6_needRoundOver_0 {l : Launch} (hl : l.stackTraces = false) {PP : Int32 → Int32 → Prop} (hPP : en_P0 PP) (Ω : Nat → en_H → va_W → Prop) : en_Ctr l vwCl en_TY0 PP en_om0 Ω en_KT yX6_needRoundOver (Cond.code yX6_needRoundOver cX6_needRoundOver 1 none :: en_cw) (en_rm 1 (1, 6)) 4 k_X6_needRoundOver_0 :=
  en_main (X := x_X6_needRoundOver_0) (M := m_X6_needRoundOver_0) hPP en_f32_ok en_f64_ok hl (by decide +kernel) ⟨en_FTX6_ok, en_PTX6_ok, en_ac (⟨yX6_isRoundOver, RX6, cX6_isRoundOver, 1, (some .boolean), by decide, ct_X6_isRoundOver_0 hl hPP Ω, fun _ => ⟨gc_RX6_440v, by decide, _, rfl, rfl⟩, fun h => Bool.noConfusion h⟩) en_an, en_LTX6_ok, en_LLX6_ok, en_TTX6_ok hl, ⟨cw256, cw147⟩, en_ACX6_ok⟩ de_X6_needRoundOver ck_X6_needRoundOver_0
def tb_X6_parPlay : en_Tb := [
  (26, [(0, .aload_n 0, 1), (1, .iload_n 1, 1), (2, .invokevirtual 127, 3), (5, .aload_n 0, 1), (6, .invokevirtual 478, 3), (9, .iconst 0, 1), (10, .istore_n 2, 1), (11, .iconst 0, 1), (12, .istore_n 3, 1), (13, .iload_n 3, 1), (14, .aload_n 0, 1), (15, .getfield 62, 3), (18, .if_icmp .ge 62, 3), (21, .aload_n 0, 1), (22, .getfield 18, 3), (25, .iload_n 1, 1)]), 
  (56, [(26, .aaload, 1), (27, .getfield 155, 3), (30, .iload_n 3, 1), (31, .invokevirtual 469, 3), (34, .ifCond .eq 7, 3), (37, .iconst 1, 1), (38, .goto 4, 3), (41, .iconst 0, 1), (42, .istore 4, 2), (44, .iload_n 2, 1), (45, .iload 4, 2), (47, .ifCond .eq 24, 3), (50, .aload_n 0, 1), (51, .getfield 11, 3), (54, .iload_n 3, 1), (55, .aaload, 1)]), 
  (82, [(56, .getfield 79, 3), (59, .aload_n 0, 1), (60, .iload_n 1, 1), (61, .iload_n 3, 1), (62, .invokevirtual 472, 3), (65, .invokestatic 481, 3), (68, .goto 4, 3), (71, .iconst (-1), 1), (72, .iadd, 1), (73, .istore_n 2, 1), (74, .iinc 3 1, 3), (77, .goto (-64), 3), (80, .iload_n 2, 1), (81, .ireturn, 1)])]
set_option maxRecDepth 40000 in
theorem de_X6_parPlay : en_De tb_X6_parPlay cX6_parPlay := by
  unfold en_De
  decide +kernel
def k_X6_parPlay_0 : en_K := (2, ([.inr (.inl 0), .inl ((-2147483648), 2147483647, 0, 0)], []), [([.inr (.inl 0), .inl (0, 5, 0, 0), .inl ((-2147483648), 2147483647, 0, 0)], [])], [], [0, 1, 2, 5, 7, 9, 10], (2, 12), [3, 4])
def u_X6_parPlay_0 : List en_U := [
  (13, ([.inr (.inl 0), .inl (0, 5, 0, 0), .inl (0, 9, 0, 0), .inl ((-2147483648), 2147483647, 0, 0)], []), [(0, 0), (1, 1), (3, 2), (2, 3)], (2, 12), [((-2), 2)], 22)]
def x_X6_parPlay_0 : en_Cx := ((en_KT, en_TY0, en_om0), en_FTX6, en_PTX6, [(127, true, 12, 4, 0, k_X6_needPlayer_0), (469, true, 7, 0, 0, k_X1_writtenOn_0), (472, true, 12, 0, 1, k_X6_netScore_0), (478, true, 12, 4, 1, k_X6_needRoundOver_0), (481, false, 0, 0, 0, k_J6_compare_7cf53_0)], en_LTX6, en_LLX6, en_TTX6, en_ACX6)
def m_X6_parPlay_0 : en_Mx := (k_X6_parPlay_0, 2, 5, (0, 0), tb_X6_parPlay, [])
set_option maxRecDepth 100000 in
theorem ck_X6_parPlay_0 : en_all x_X6_parPlay_0 m_X6_parPlay_0 u_X6_parPlay_0 36 = true := by decide +kernel
theorem ct_X6_parPlay_0 {l : Launch} (hl : l.stackTraces = false) {PP : Int32 → Int32 → Prop} (hPP : en_P0 PP) (Ω : Nat → en_H → va_W → Prop) : en_Ctr l vwCl en_TY0 PP en_om0 Ω en_KT yX6_parPlay (Cond.code yX6_parPlay cX6_parPlay 5 (some .int) :: en_cw) (en_rm 2 (2, 12)) 0 k_X6_parPlay_0 :=
  en_main (X := x_X6_parPlay_0) (M := m_X6_parPlay_0) hPP en_f32_ok en_f64_ok hl (by decide +kernel) ⟨en_FTX6_ok, en_PTX6_ok, en_ac (⟨yX6_needPlayer, RX6, cX6_needPlayer, 2, none, by decide, ct_X6_needPlayer_0 hl hPP Ω, fun _ => ⟨gc_RX6_127v, by decide, _, rfl, rfl⟩, fun h => Bool.noConfusion h⟩) (en_ac (⟨yX1_writtenOn, RX1, cX1_writtenOn, 2, (some .int), by decide, ct_X1_writtenOn_0 hl hPP Ω, fun _ => ⟨gc_RX6_469v, by decide, _, rfl, rfl⟩, fun h => Bool.noConfusion h⟩) (en_ac (⟨yX6_netScore, RX6, cX6_netScore, 3, (some .int), by decide, ct_X6_netScore_0 hl hPP Ω, fun _ => ⟨gc_RX6_472v, by decide, _, rfl, rfl⟩, fun h => Bool.noConfusion h⟩) (en_ac (⟨yX6_needRoundOver, RX6, cX6_needRoundOver, 1, none, by decide, ct_X6_needRoundOver_0 hl hPP Ω, fun _ => ⟨gc_RX6_478v, by decide, _, rfl, rfl⟩, fun h => Bool.noConfusion h⟩) (en_ac (⟨yJ6_compare_7cf53, RJ6, cJ6_compare_7cf53, 2, (some .int), by decide, ct_J6_compare_7cf53_0 hl hPP Ω, fun h => Bool.noConfusion h, fun _ => gc_RX6_481s⟩) en_an)))), en_LTX6_ok, en_LLX6_ok, en_TTX6_ok hl, ⟨cw256, cw147⟩, en_ACX6_ok⟩ de_X6_parPlay ck_X6_parPlay_0
def tb_X6_penalties : en_Tb := [
  (22, [(0, .aload_n 0, 1), (1, .iload_n 1, 1), (2, .invokevirtual 127, 3), (5, .aload_n 0, 1), (6, .invokevirtual 167, 3), (9, .aload_n 0, 1), (10, .getfield 18, 3), (13, .iload_n 1, 1), (14, .aaload, 1), (15, .getfield 185, 3), (18, .getfield 358, 3), (21, .ireturn, 1)])]
set_option maxRecDepth 40000 in
theorem de_X6_penalties : en_De tb_X6_penalties cX6_penalties := by
  unfold en_De
  decide +kernel
def k_X6_penalties_0 : en_K := (2, ([.inr (.inl 0), .inl ((-2147483648), 2147483647, 0, 0)], []), [([.inr (.inl 0), .inl (0, 5, 0, 0), .inl ((-2147483648), 2147483647, 0, 0)], [])], [], [0, 2, 7, 8], (2, 12), [1, 3])
def u_X6_penalties_0 : List en_U := []
def x_X6_penalties_0 : en_Cx := ((en_KT, en_TY0, en_om0), en_FTX6, en_PTX6, [(127, true, 12, 4, 0, k_X6_needPlayer_0), (167, true, 12, 4, 0, k_X6_needRound_0)], en_LTX6, en_LLX6, en_TTX6, en_ACX6)
def m_X6_penalties_0 : en_Mx := (k_X6_penalties_0, 1, 2, (0, 0), tb_X6_penalties, [])
set_option maxRecDepth 100000 in
theorem ck_X6_penalties_0 : en_all x_X6_penalties_0 m_X6_penalties_0 u_X6_penalties_0 15 = true := by decide +kernel
theorem ct_X6_penalties_0 {l : Launch} (hl : l.stackTraces = false) {PP : Int32 → Int32 → Prop} (hPP : en_P0 PP) (Ω : Nat → en_H → va_W → Prop) : en_Ctr l vwCl en_TY0 PP en_om0 Ω en_KT yX6_penalties (Cond.code yX6_penalties cX6_penalties 2 (some .int) :: en_cw) (en_rm 1 (2, 12)) 0 k_X6_penalties_0 :=
  en_main (X := x_X6_penalties_0) (M := m_X6_penalties_0) hPP en_f32_ok en_f64_ok hl (by decide +kernel) ⟨en_FTX6_ok, en_PTX6_ok, en_ac (⟨yX6_needPlayer, RX6, cX6_needPlayer, 2, none, by decide, ct_X6_needPlayer_0 hl hPP Ω, fun _ => ⟨gc_RX6_127v, by decide, _, rfl, rfl⟩, fun h => Bool.noConfusion h⟩) (en_ac (⟨yX6_needRound, RX6, cX6_needRound, 1, none, by decide, ct_X6_needRound_0 hl hPP Ω, fun _ => ⟨gc_RX6_167v, by decide, _, rfl, rfl⟩, fun h => Bool.noConfusion h⟩) en_an), en_LTX6_ok, en_LLX6_ok, en_TTX6_ok hl, ⟨cw256, cw147⟩, en_ACX6_ok⟩ de_X6_penalties ck_X6_penalties_0
def tb_X6_penaltyShare : en_Tb := [
  (24, [(0, .aload_n 0, 1), (1, .iload_n 1, 1), (2, .invokevirtual 127, 3), (5, .aload_n 0, 1), (6, .getfield 18, 3), (9, .iload_n 1, 1), (10, .aaload, 1), (11, .getfield 155, 3), (14, .astore_n 2, 1), (15, .iconst 0, 1), (16, .istore_n 3, 1), (17, .iconst 0, 1), (18, .istore 4, 2), (20, .iconst 0, 1), (21, .istore 5, 2), (23, .iload 5, 2)]), 
  (52, [(25, .aload_n 0, 1), (26, .getfield 62, 3), (29, .if_icmp .ge 31, 3), (32, .iload_n 3, 1), (33, .aload_n 2, 1), (34, .getfield 554, 3), (37, .iload 5, 2), (39, .iaload, 1), (40, .iadd, 1), (41, .istore_n 3, 1), (42, .iload 4, 2), (44, .aload_n 2, 1), (45, .getfield 557, 3), (48, .iload 5, 2), (50, .iaload, 1), (51, .iadd, 1)]), 
  (82, [(52, .istore 4, 2), (54, .iinc 5 1, 3), (57, .goto (-34), 3), (60, .iload_n 3, 1), (61, .ifCond .ne 14, 3), (64, .new 559, 3), (67, .dup, 1), (68, .ldc_w 425, 3), (71, .invokespecial 561, 3), (74, .athrow, 1), (75, .iload 4, 2), (77, .i2f, 1), (78, .iload_n 3, 1), (79, .i2f, 1), (80, .fdiv, 1), (81, .freturn, 1)])]
set_option maxRecDepth 40000 in
theorem de_X6_penaltyShare : en_De tb_X6_penaltyShare cX6_penaltyShare := by
  unfold en_De
  decide +kernel
def k_X6_penaltyShare_0 : en_K := (2, ([.inr (.inl 0), .inl ((-2147483648), 2147483647, 0, 0)], []), [([.inr (.inl 0), .inl (0, 5, 0, 0), .inr (.inr 1)], [])], [], [0, 2, 7, 9, 10], (2, 12), [3, 5])
def u_X6_penaltyShare_0 : List en_U := [
  (23, ([.inr (.inl 0), .inl (0, 5, 0, 0), .inl (0, 9, 0, 0), .inl ((-2147483648), 2147483647, 0, 0), .inl ((-2147483648), 2147483647, 0, 0), .inr (.inl 9)], []), [(0, 0), (1, 1), (5, 2), (4, 3), (3, 4), (2, 5)], (1, 6), [((-2), 2)], 22)]
def x_X6_penaltyShare_0 : en_Cx := ((en_KT, en_TY0, en_om0), en_FTX6, en_PTX6, [(127, true, 12, 4, 0, k_X6_needPlayer_0)], en_LTX6, en_LLX6, en_TTX6, en_ACX6)
def m_X6_penaltyShare_0 : en_Mx := (k_X6_penaltyShare_0, 1, 6, (2, 0), tb_X6_penaltyShare, [])
set_option maxRecDepth 100000 in
theorem ck_X6_penaltyShare_0 : en_all x_X6_penaltyShare_0 m_X6_penaltyShare_0 u_X6_penaltyShare_0 23 = true := by decide +kernel
theorem ct_X6_penaltyShare_0 {l : Launch} (hl : l.stackTraces = false) {PP : Int32 → Int32 → Prop} (hPP : en_P0 PP) (Ω : Nat → en_H → va_W → Prop) : en_Ctr l vwCl en_TY0 PP en_om0 Ω en_KT yX6_penaltyShare (Cond.code yX6_penaltyShare cX6_penaltyShare 6 (some .float) :: en_cw) (en_rm 1 (2, 12)) 2 k_X6_penaltyShare_0 :=
  en_main (X := x_X6_penaltyShare_0) (M := m_X6_penaltyShare_0) hPP en_f32_ok en_f64_ok hl (by decide +kernel) ⟨en_FTX6_ok, en_PTX6_ok, en_ac (⟨yX6_needPlayer, RX6, cX6_needPlayer, 2, none, by decide, ct_X6_needPlayer_0 hl hPP Ω, fun _ => ⟨gc_RX6_127v, by decide, _, rfl, rfl⟩, fun h => Bool.noConfusion h⟩) en_an, en_LTX6_ok, en_LLX6_ok, en_TTX6_ok hl, ⟨cw256, cw147⟩, en_ACX6_ok⟩ de_X6_penaltyShare ck_X6_penaltyShare_0
def tb_X6_pickUp : en_Tb := [
  (30, [(0, .aload_n 0, 1), (1, .iload_n 1, 1), (2, .invokevirtual 127, 3), (5, .aload_n 0, 1), (6, .invokevirtual 167, 3), (9, .aload_n 0, 1), (10, .getfield 18, 3), (13, .iload_n 1, 1), (14, .aaload, 1), (15, .getfield 185, 3), (18, .astore_n 2, 1), (19, .aload_n 2, 1), (20, .invokevirtual 280, 3), (23, .ifCond .eq 14, 3), (26, .new 74, 3), (29, .dup, 1)]), 
  (56, [(30, .ldc_w 363, 3), (33, .invokespecial 78, 3), (36, .athrow, 1), (37, .aload_n 0, 1), (38, .getfield 30, 3), (41, .iconst (-1), 1), (42, .putfield 193, 3), (45, .aload_n 2, 1), (46, .bipush 117, 2), (48, .putfield 205, 3), (51, .aload_n 0, 1), (52, .invokevirtual 365, 3), (55, .ireturn, 1)])]
set_option maxRecDepth 40000 in
theorem de_X6_pickUp : en_De tb_X6_pickUp cX6_pickUp := by
  unfold en_De
  decide +kernel
def k_X6_pickUp_0 : en_K := (2, ([.inr (.inl 0), .inl ((-2147483648), 2147483647, 0, 0)], []), [([.inr (.inl 0), .inl (0, 5, 0, 0), .inl ((-2147483648), 2147483647, 0, 0)], [])], [(4, 1), (8, 0)], [0, 2, 4, 7, 8], (3, 18), [1, 2, 3])
def u_X6_pickUp_0 : List en_U := []
def x_X6_pickUp_0 : en_Cx := ((en_KT, en_TY0, en_om0), en_FTX6, en_PTX6, [(127, true, 12, 4, 0, k_X6_needPlayer_0), (167, true, 12, 4, 0, k_X6_needRound_0), (280, true, 6, 0, 0, k_X0_isDone_0), (365, true, 12, 0, 1, k_X6_howManyNotDone_0)], en_LTX6, en_LLX6, en_TTX6, en_ACX6)
def m_X6_pickUp_0 : en_Mx := (k_X6_pickUp_0, 2, 3, (0, 0), tb_X6_pickUp, [])
set_option maxRecDepth 100000 in
theorem ck_X6_pickUp_0 : en_all x_X6_pickUp_0 m_X6_pickUp_0 u_X6_pickUp_0 27 = true := by decide +kernel
theorem ct_X6_pickUp_0 {l : Launch} (hl : l.stackTraces = false) {PP : Int32 → Int32 → Prop} (hPP : en_P0 PP) (Ω : Nat → en_H → va_W → Prop) : en_Ctr l vwCl en_TY0 PP en_om0 Ω en_KT yX6_pickUp (Cond.code yX6_pickUp cX6_pickUp 3 (some .int) :: en_cw) (en_rm 2 (3, 18)) 0 k_X6_pickUp_0 :=
  en_main (X := x_X6_pickUp_0) (M := m_X6_pickUp_0) hPP en_f32_ok en_f64_ok hl (by decide +kernel) ⟨en_FTX6_ok, en_PTX6_ok, en_ac (⟨yX6_needPlayer, RX6, cX6_needPlayer, 2, none, by decide, ct_X6_needPlayer_0 hl hPP Ω, fun _ => ⟨gc_RX6_127v, by decide, _, rfl, rfl⟩, fun h => Bool.noConfusion h⟩) (en_ac (⟨yX6_needRound, RX6, cX6_needRound, 1, none, by decide, ct_X6_needRound_0 hl hPP Ω, fun _ => ⟨gc_RX6_167v, by decide, _, rfl, rfl⟩, fun h => Bool.noConfusion h⟩) (en_ac (⟨yX0_isDone, RX0, cX0_isDone, 1, (some .boolean), by decide, ct_X0_isDone_0 hl hPP Ω, fun _ => ⟨gc_RX6_280v, by decide, _, rfl, rfl⟩, fun h => Bool.noConfusion h⟩) (en_ac (⟨yX6_howManyNotDone, RX6, cX6_howManyNotDone, 3, (some .int), by decide, ct_X6_howManyNotDone_0 hl hPP Ω, fun _ => ⟨gc_RX6_365v, by decide, _, rfl, rfl⟩, fun h => Bool.noConfusion h⟩) en_an))), en_LTX6_ok, en_LLX6_ok, en_TTX6_ok hl, ⟨cw256, cw147⟩, en_ACX6_ok⟩ de_X6_pickUp ck_X6_pickUp_0
def tb_X6_player : en_Tb := [
  (32, [(0, .aload_n 0, 1), (1, .getfield 58, 3), (4, .ifCond .ne 12, 3), (7, .aload_n 0, 1), (8, .getfield 122, 3), (11, .bipush 6, 2), (13, .if_icmp .lt 13, 3), (16, .new 65, 3), (19, .dup, 1), (20, .ldc 125, 2), (22, .invokespecial 69, 3), (25, .athrow, 1), (26, .aload_n 0, 1), (27, .dup, 1), (28, .getfield 122, 3), (31, .iconst 1, 1)]), 
  (43, [(32, .iadd, 1), (33, .putfield 122, 3), (36, .aload_n 0, 1), (37, .getfield 122, 3), (40, .iconst 1, 1), (41, .isub, 1), (42, .ireturn, 1)])]
set_option maxRecDepth 40000 in
theorem de_X6_player : en_De tb_X6_player cX6_player := by
  unfold en_De
  decide +kernel
def k_X6_player_0 : en_K := (1, ([.inr (.inl 0)], []), [([.inr (.inl 0), .inl (0, 5, 0, 0)], [])], [(0, 5)], [0], (1, 6), [1])
def u_X6_player_0 : List en_U := []
def x_X6_player_0 : en_Cx := ((en_KT, en_TY0, en_om0), en_FTX6, en_PTX6, [], en_LTX6, en_LLX6, en_TTX6, en_ACX6)
def m_X6_player_0 : en_Mx := (k_X6_player_0, 0, 1, (0, 0), tb_X6_player, [])
set_option maxRecDepth 100000 in
theorem ck_X6_player_0 : en_all x_X6_player_0 m_X6_player_0 u_X6_player_0 21 = true := by decide +kernel
theorem ct_X6_player_0 {l : Launch} (hl : l.stackTraces = false) {PP : Int32 → Int32 → Prop} (hPP : en_P0 PP) (Ω : Nat → en_H → va_W → Prop) : en_Ctr l vwCl en_TY0 PP en_om0 Ω en_KT yX6_player (Cond.code yX6_player cX6_player 1 (some .int) :: en_cw) (en_rm 0 (1, 6)) 0 k_X6_player_0 :=
  en_main (X := x_X6_player_0) (M := m_X6_player_0) hPP en_f32_ok en_f64_ok hl (by decide +kernel) ⟨en_FTX6_ok, en_PTX6_ok, en_an, en_LTX6_ok, en_LLX6_ok, en_TTX6_ok hl, ⟨cw256, cw147⟩, en_ACX6_ok⟩ de_X6_player ck_X6_player_0
def tb_X6_point : en_Tb := [
  (28, [(0, .aload_n 0, 1), (1, .iload_n 1, 1), (2, .invokevirtual 127, 3), (5, .aload_n 0, 1), (6, .invokevirtual 167, 3), (9, .aload_n 0, 1), (10, .getfield 18, 3), (13, .iload_n 1, 1), (14, .aaload, 1), (15, .getfield 185, 3), (18, .astore_n 3, 1), (19, .aload_n 0, 1), (20, .aload_n 3, 1), (21, .invokevirtual 310, 3), (24, .ifCond .ne 14, 3), (27, .new 74, 3)]), 
  (60, [(30, .dup, 1), (31, .ldc_w 314, 3), (34, .invokespecial 78, 3), (37, .athrow, 1), (38, .aload_n 0, 1), (39, .getfield 11, 3), (42, .aload_n 0, 1), (43, .getfield 170, 3), (46, .aaload, 1), (47, .aload_n 3, 1), (48, .getfield 211, 3), (51, .invokevirtual 316, 3), (54, .istore 4, 2), (56, .iload 4, 2), (58, .iconst (-1), 1), (59, .if_icmp .ne 14, 3)]), 
  (91, [(62, .new 177, 3), (65, .dup, 1), (66, .ldc_w 319, 3), (69, .invokespecial 181, 3), (72, .athrow, 1), (73, .iload_n 2, 1), (74, .ifCond .eq 11, 3), (77, .iload 4, 2), (79, .bipush 30, 2), (81, .irem, 1), (82, .goto 8, 3), (85, .iload 4, 2), (87, .bipush 30, 2), (89, .idiv, 1), (90, .ireturn, 1)])]
set_option maxRecDepth 40000 in
theorem de_X6_point : en_De tb_X6_point cX6_point := by
  unfold en_De
  decide +kernel
def k_X6_point_0 : en_K := (3, ([.inr (.inl 0), .inl ((-2147483648), 2147483647, 0, 0), .inl (0, 1, 0, 0)], []), [([.inr (.inl 0), .inl (0, 5, 0, 0), .inl (0, 1, 0, 0), .inl (0, 29, 0, 0)], [])], [], [0, 1, 2, 5, 6, 7, 8], (3, 18), [1, 2, 3, 4])
def u_X6_point_0 : List en_U := []
def x_X6_point_0 : en_Cx := ((en_KT, en_TY0, en_om0), en_FTX6, en_PTX6, [(127, true, 12, 4, 0, k_X6_needPlayer_0), (167, true, 12, 4, 0, k_X6_needRound_0), (310, true, 12, 0, 1, k_X6_isOnFreeKind_0), (316, true, 9, 0, 3, k_X3_nearestPoint_0)], en_LTX6, en_LLX6, en_TTX6, en_ACX6)
def m_X6_point_0 : en_Mx := (k_X6_point_0, 4, 5, (0, 0), tb_X6_point, [])
set_option maxRecDepth 100000 in
theorem ck_X6_point_0 : en_all x_X6_point_0 m_X6_point_0 u_X6_point_0 37 = true := by decide +kernel
theorem ct_X6_point_0 {l : Launch} (hl : l.stackTraces = false) {PP : Int32 → Int32 → Prop} (hPP : en_P0 PP) (Ω : Nat → en_H → va_W → Prop) : en_Ctr l vwCl en_TY0 PP en_om0 Ω en_KT yX6_point (Cond.code yX6_point cX6_point 5 (some .int) :: en_cw) (en_rm 4 (3, 18)) 0 k_X6_point_0 :=
  en_main (X := x_X6_point_0) (M := m_X6_point_0) hPP en_f32_ok en_f64_ok hl (by decide +kernel) ⟨en_FTX6_ok, en_PTX6_ok, en_ac (⟨yX6_needPlayer, RX6, cX6_needPlayer, 2, none, by decide, ct_X6_needPlayer_0 hl hPP Ω, fun _ => ⟨gc_RX6_127v, by decide, _, rfl, rfl⟩, fun h => Bool.noConfusion h⟩) (en_ac (⟨yX6_needRound, RX6, cX6_needRound, 1, none, by decide, ct_X6_needRound_0 hl hPP Ω, fun _ => ⟨gc_RX6_167v, by decide, _, rfl, rfl⟩, fun h => Bool.noConfusion h⟩) (en_ac (⟨yX6_isOnFreeKind, RX6, cX6_isOnFreeKind, 3, (some .boolean), by decide, ct_X6_isOnFreeKind_0 hl hPP Ω, fun _ => ⟨gc_RX6_310v, by decide, _, rfl, rfl⟩, fun h => Bool.noConfusion h⟩) (en_ac (⟨yX3_nearestPoint, RX3, cX3_nearestPoint, 6, (some .int), by decide, ct_X3_nearestPoint_0 hl hPP Ω, fun _ => ⟨gc_RX6_316v, by decide, _, rfl, rfl⟩, fun h => Bool.noConfusion h⟩) en_an))), en_LTX6_ok, en_LLX6_ok, en_TTX6_ok hl, ⟨cw256, cw147⟩, en_ACX6_ok⟩ de_X6_point ck_X6_point_0
