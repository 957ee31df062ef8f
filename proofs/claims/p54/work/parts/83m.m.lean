def tb_X6_keepIfOutOfOrder : en_Tb := [
  (32, [(0, .aload_n 0, 1), (1, .invokevirtual 196, 3), (4, .ifCond .eq 38, 3), (7, .aload_n 0, 1), (8, .invokevirtual 173, 3), (11, .iload_n 1, 1), (12, .if_icmp .eq 30, 3), (15, .aload_n 0, 1), (16, .getfield 30, 3), (19, .iload_n 1, 1), (20, .putfield 193, 3), (23, .aload_n 0, 1), (24, .getfield 30, 3), (27, .getfield 370, 3), (30, .aload_n 0, 1), (31, .getfield 18, 3)]), 
  (43, [(34, .iload_n 1, 1), (35, .aaload, 1), (36, .getfield 185, 3), (39, .invokevirtual 373, 3), (42, .return_, 1)])]
set_option maxRecDepth 40000 in
theorem de_X6_keepIfOutOfOrder : en_De tb_X6_keepIfOutOfOrder cX6_keepIfOutOfOrder := by
  unfold en_De
  decide +kernel
def k_X6_keepIfOutOfOrder_0 : en_K := (2, ([.inr (.inl 0), .inl (0, 5, 0, 0)], []), [([.inr (.inl 0), .inl (0, 5, 0, 0)], [])], [(4, 1), (8, 0), (8, 1), (8, 2), (8, 3), (8, 4), (8, 5), (8, 6), (8, 7), (8, 8), (8, 9), (8, 10), (8, 11), (8, 12), (8, 13), (8, 14), (8, 15)], [0, 1, 2, 3, 4, 5, 7, 8], (0, 0), [])
def u_X6_keepIfOutOfOrder_0 : List en_U := []
def x_X6_keepIfOutOfOrder_0 : en_Cx := ((en_KT, en_TY0, en_om0), en_FTX6, en_PTX6, [(173, true, 12, 0, 2, k_X6_whoPlaysNext_0), (196, true, 12, 0, 0, k_X6_isMatch_0), (373, true, 6, 4, 0, k_X0_copyFrom_0)], en_LTX6, en_LLX6, en_TTX6, en_ACX6)
def m_X6_keepIfOutOfOrder_0 : en_Mx := (k_X6_keepIfOutOfOrder_0, 3, 2, (4, 0), tb_X6_keepIfOutOfOrder, [])
set_option maxRecDepth 100000 in
theorem ck_X6_keepIfOutOfOrder_0 : en_all x_X6_keepIfOutOfOrder_0 m_X6_keepIfOutOfOrder_0 u_X6_keepIfOutOfOrder_0 24 = true := by decide +kernel
theorem ct_X6_keepIfOutOfOrder_0 {l : Launch} (hl : l.stackTraces = false) {PP : Int32 → Int32 → Prop} (hPP : en_P0 PP) (Ω : Nat → en_H → va_W → Prop) : en_Ctr l vwCl en_TY0 PP en_om0 Ω en_KT yX6_keepIfOutOfOrder (Cond.code yX6_keepIfOutOfOrder cX6_keepIfOutOfOrder 2 none :: en_cw) (en_rm 3 (0, 0)) 4 k_X6_keepIfOutOfOrder_0 :=
  en_main (X := x_X6_keepIfOutOfOrder_0) (M := m_X6_keepIfOutOfOrder_0) hPP en_f32_ok en_f64_ok hl (by decide +kernel) ⟨en_FTX6_ok, en_PTX6_ok, en_ac (⟨yX6_whoPlaysNext, RX6, cX6_whoPlaysNext, 6, (some .int), by decide, ct_X6_whoPlaysNext_0 hl hPP Ω, fun _ => ⟨gc_RX6_173v, by decide, _, rfl, rfl⟩, fun h => Bool.noConfusion h⟩) (en_ac (⟨yX6_isMatch, RX6, cX6_isMatch, 1, (some .boolean), by decide, ct_X6_isMatch_0 hl hPP Ω, fun _ => ⟨gc_RX6_196v, by decide, _, rfl, rfl⟩, fun h => Bool.noConfusion h⟩) (en_ac (⟨yX0_copyFrom, RX0, cX0_copyFrom, 2, none, by decide, ct_X0_copyFrom_0 hl hPP Ω, fun _ => ⟨gc_RX6_373v, by decide, _, rfl, rfl⟩, fun h => Bool.noConfusion h⟩) en_an)), en_LTX6_ok, en_LLX6_ok, en_TTX6_ok hl, ⟨cw256, cw147⟩, en_ACX6_ok⟩ de_X6_keepIfOutOfOrder ck_X6_keepIfOutOfOrder_0
def tb_X3_isSeriousBreach : en_Tb := [
  (27, [(0, .iconst 4, 1), (1, .iload_n 1, 1), (2, .aload_n 0, 1), (3, .getfield 27, 3), (6, .invokestatic 34, 3), (9, .imul, 1), (10, .iload_n 2, 1), (11, .aload_n 0, 1), (12, .getfield 27, 3), (15, .invokestatic 34, 3), (18, .if_icmp .ge 7, 3), (21, .iconst 1, 1), (22, .goto 4, 3), (25, .iconst 0, 1), (26, .ireturn, 1)])]
set_option maxRecDepth 40000 in
theorem de_X3_isSeriousBreach : en_De tb_X3_isSeriousBreach cX3_isSeriousBreach := by
  unfold en_De
  decide +kernel
def k_X3_isSeriousBreach_0 : en_K := (3, ([.inr (.inl 5), .inl ((-2147483648), 2147483647, 0, 0), .inl ((-2147483648), 2147483647, 0, 0)], []), [([.inr (.inl 5), .inl ((-2147483648), 2147483647, 0, 0), .inl ((-2147483648), 2147483647, 0, 0), .inl (0, 0, 0, 0)], []), ([.inr (.inl 5), .inl ((-2147483648), 2147483647, 0, 0), .inl ((-2147483648), 2147483647, 0, 0), .inl (1, 1, 0, 0)], [])], [], [5], (0, 0), [])
def u_X3_isSeriousBreach_0 : List en_U := []
def x_X3_isSeriousBreach_0 : en_Cx := ((en_KT, en_TY0, en_om0), en_FTX3, en_PTX3, [(34, false, 0, 0, 0, k_X6_distance_0)], en_LTX3, en_LLX3, en_TTX3, en_ACX3)
def m_X3_isSeriousBreach_0 : en_Mx := (k_X3_isSeriousBreach_0, 1, 3, (0, 2), tb_X3_isSeriousBreach, [])
set_option maxRecDepth 100000 in
theorem ck_X3_isSeriousBreach_0 : en_all x_X3_isSeriousBreach_0 m_X3_isSeriousBreach_0 u_X3_isSeriousBreach_0 17 = true := by decide +kernel
theorem ct_X3_isSeriousBreach_0 {l : Launch} (hl : l.stackTraces = false) {PP : Int32 → Int32 → Prop} (hPP : en_P0 PP) (Ω : Nat → en_H → va_W → Prop) : en_Ctr l vwCl en_TY0 PP en_om0 Ω en_KT yX3_isSeriousBreach (Cond.code yX3_isSeriousBreach cX3_isSeriousBreach 3 (some .boolean) :: en_cw) (en_rm 1 (0, 0)) 0 k_X3_isSeriousBreach_0 :=
  en_main (X := x_X3_isSeriousBreach_0) (M := m_X3_isSeriousBreach_0) hPP en_f32_ok en_f64_ok hl (by decide +kernel) ⟨en_FTX3_ok, en_PTX3_ok, en_ac (⟨yX6_distance, RX6, cX6_distance, 4, (some .int), by decide, ct_X6_distance_0 hl hPP Ω, fun h => Bool.noConfusion h, fun _ => gc_RX3_34s⟩) en_an, en_LTX3_ok, en_LLX3_ok, en_TTX3_ok hl, ⟨cw256, cw147⟩, en_ACX3_ok⟩ de_X3_isSeriousBreach ck_X3_isSeriousBreach_0
def tb_X0_playWrongly : en_Tb := [
  (21, [(0, .aload_n 0, 1), (1, .dup, 1), (2, .getfield 32, 3), (5, .iconst 2, 1), (6, .iadd, 1), (7, .putfield 32, 3), (10, .aload_n 0, 1), (11, .iconst 0, 1), (12, .putfield 38, 3), (15, .aload_n 0, 1), (16, .iload_n 1, 1), (17, .putfield 41, 3), (20, .return_, 1)])]
set_option maxRecDepth 40000 in
theorem de_X0_playWrongly : en_De tb_X0_playWrongly cX0_playWrongly := by
  unfold en_De
  decide +kernel
def k_X0_playWrongly_0 : en_K := (2, ([.inr (.inl 8), .inl (0, 1, 0, 0)], []), [([.inr (.inl 8), .inl (0, 1, 0, 0)], [(0, 0, 10, 1, 0, 0)])], [(8, 6), (8, 9), (8, 10)], [8], (0, 0), [])
def u_X0_playWrongly_0 : List en_U := []
def x_X0_playWrongly_0 : en_Cx := ((en_KT, en_TY0, en_om0), en_FTX0, en_PTX0, [], en_LTX0, en_LLX0, en_TTX0, en_ACX0)
def m_X0_playWrongly_0 : en_Mx := (k_X0_playWrongly_0, 0, 2, (4, 0), tb_X0_playWrongly, [])
set_option maxRecDepth 100000 in
theorem ck_X0_playWrongly_0 : en_all x_X0_playWrongly_0 m_X0_playWrongly_0 u_X0_playWrongly_0 16 = true := by decide +kernel
theorem ct_X0_playWrongly_0 {l : Launch} (hl : l.stackTraces = false) {PP : Int32 → Int32 → Prop} (hPP : en_P0 PP) (Ω : Nat → en_H → va_W → Prop) : en_Ctr l vwCl en_TY0 PP en_om0 Ω en_KT yX0_playWrongly (Cond.code yX0_playWrongly cX0_playWrongly 2 none :: en_cw) (en_rm 0 (0, 0)) 4 k_X0_playWrongly_0 :=
  en_main (X := x_X0_playWrongly_0) (M := m_X0_playWrongly_0) hPP en_f32_ok en_f64_ok hl (by decide +kernel) ⟨en_FTX0_ok, en_PTX0_ok, en_an, en_LTX0_ok, en_LLX0_ok, en_TTX0_ok hl, ⟨cw256, cw147⟩, en_ACX0_ok⟩ de_X0_playWrongly ck_X0_playWrongly_0
def tb_X0_strike : en_Tb := [
  (28, [(0, .aload_n 0, 1), (1, .aload_n 0, 1), (2, .getfield 15, 3), (5, .putfield 23, 3), (8, .aload_n 0, 1), (9, .aload_n 0, 1), (10, .getfield 19, 3), (13, .putfield 26, 3), (16, .aload_n 0, 1), (17, .dup, 1), (18, .getfield 29, 3), (21, .iconst 1, 1), (22, .iadd, 1), (23, .putfield 29, 3), (26, .aload_n 0, 1), (27, .iload_n 1, 1)]), 
  (42, [(28, .putfield 15, 3), (31, .aload_n 0, 1), (32, .iconst 0, 1), (33, .putfield 19, 3), (36, .aload_n 0, 1), (37, .iload_n 2, 1), (38, .putfield 9, 3), (41, .return_, 1)])]
set_option maxRecDepth 40000 in
theorem de_X0_strike : en_De tb_X0_strike cX0_strike := by
  unfold en_De
  decide +kernel
def k_X0_strike_0 : en_K := (3, ([.inr (.inl 8), .inl ((-2147483648), 2147483647, 0, 0), .inl (0, 65535, 0, 0)], []), [([.inr (.inl 8), .inl ((-2147483648), 2147483647, 0, 0), .inl (0, 65535, 0, 0)], [(0, 0, 1, 1, 0, 0), (0, 0, 0, 2, 0, 0)])], [(8, 0), (8, 1), (8, 2), (8, 3), (8, 4), (8, 5)], [8], (0, 0), [])
def u_X0_strike_0 : List en_U := []
def x_X0_strike_0 : en_Cx := ((en_KT, en_TY0, en_om0), en_FTX0, en_PTX0, [], en_LTX0, en_LLX0, en_TTX0, en_ACX0)
def m_X0_strike_0 : en_Mx := (k_X0_strike_0, 0, 3, (4, 0), tb_X0_strike, [])
set_option maxRecDepth 100000 in
theorem ck_X0_strike_0 : en_all x_X0_strike_0 m_X0_strike_0 u_X0_strike_0 27 = true := by decide +kernel
theorem ct_X0_strike_0 {l : Launch} (hl : l.stackTraces = false) {PP : Int32 → Int32 → Prop} (hPP : en_P0 PP) (Ω : Nat → en_H → va_W → Prop) : en_Ctr l vwCl en_TY0 PP en_om0 Ω en_KT yX0_strike (Cond.code yX0_strike cX0_strike 3 none :: en_cw) (en_rm 0 (0, 0)) 4 k_X0_strike_0 :=
  en_main (X := x_X0_strike_0) (M := m_X0_strike_0) hPP en_f32_ok en_f64_ok hl (by decide +kernel) ⟨en_FTX0_ok, en_PTX0_ok, en_an, en_LTX0_ok, en_LLX0_ok, en_TTX0_ok hl, ⟨cw256, cw147⟩, en_ACX0_ok⟩ de_X0_strike ck_X0_strike_0
def tb_X6_stroke : en_Tb := [
  (27, [(0, .aload_n 0, 1), (1, .iload_n 1, 1), (2, .invokevirtual 127, 3), (5, .iload_n 2, 1), (6, .iload_n 3, 1), (7, .invokestatic 114, 3), (10, .aload_n 0, 1), (11, .invokevirtual 182, 3), (14, .aload_n 0, 1), (15, .getfield 18, 3), (18, .iload_n 1, 1), (19, .aaload, 1), (20, .getfield 185, 3), (23, .astore 4, 2), (25, .iload_n 2, 1), (26, .iload_n 3, 1)]), 
  (61, [(27, .invokestatic 85, 3), (30, .istore 5, 2), (32, .aload_n 0, 1), (33, .aload 4, 2), (35, .iload 5, 2), (37, .invokevirtual 189, 3), (40, .aload_n 0, 1), (41, .getfield 30, 3), (44, .iconst (-1), 1), (45, .putfield 193, 3), (48, .aload_n 0, 1), (49, .invokevirtual 196, 3), (52, .ifCond .eq 24, 3), (55, .aload 4, 2), (57, .getfield 200, 3), (60, .ifCond .eq 16, 3)]), 
  (93, [(63, .aload 4, 2), (65, .bipush 117, 2), (67, .putfield 205, 3), (70, .aload 4, 2), (72, .getfield 205, 3), (75, .ireturn, 1), (76, .aload_n 0, 1), (77, .iload_n 1, 1), (78, .invokevirtual 208, 3), (81, .aload_n 0, 1), (82, .getfield 11, 3), (85, .aload_n 0, 1), (86, .getfield 170, 3), (89, .aaload, 1), (90, .astore 6, 2), (92, .aload 4, 2)]), 
  (132, [(94, .getfield 200, 3), (97, .ifCond .eq 23, 3), (100, .aload 4, 2), (102, .aload 6, 2), (104, .aload 4, 2), (106, .getfield 211, 3), (109, .aload 4, 2), (111, .getfield 214, 3), (114, .invokevirtual 217, 3), (117, .invokevirtual 220, 3), (120, .aload_n 0, 1), (121, .aload 4, 2), (123, .getfield 211, 3), (126, .aload 4, 2), (128, .getfield 224, 3), (131, .iload 5, 2)]), 
  (161, [(133, .invokevirtual 227, 3), (136, .istore 7, 2), (138, .aload 4, 2), (140, .iload 7, 2), (142, .aload 6, 2), (144, .iload 7, 2), (146, .invokevirtual 231, 3), (149, .invokestatic 234, 3), (152, .invokevirtual 238, 3), (155, .aload 4, 2), (157, .getfield 205, 3), (160, .ireturn, 1)])]
set_option maxRecDepth 40000 in
theorem de_X6_stroke : en_De tb_X6_stroke cX6_stroke := by
  unfold en_De
  decide +kernel
def k_X6_stroke_0 : en_K := (4, ([.inr (.inl 0), .inl ((-2147483648), 2147483647, 0, 0), .inl ((-2147483648), 2147483647, 0, 0), .inl ((-2147483648), 2147483647, 0, 0)], []), [([.inr (.inl 0), .inl (0, 5, 0, 0), .inl (0, 29, 0, 0), .inl (0, 19, 0, 0), .inl (104, 104, 0, 0)], []), ([.inr (.inl 0), .inl (0, 5, 0, 0), .inl (0, 29, 0, 0), .inl (0, 19, 0, 0), .inl (108, 108, 0, 0)], []), ([.inr (.inl 0), .inl (0, 5, 0, 0), .inl (0, 29, 0, 0), .inl (0, 19, 0, 0), .inl (115, 115, 0, 0)], []), ([.inr (.inl 0), .inl (0, 5, 0, 0), .inl (0, 29, 0, 0), .inl (0, 19, 0, 0), .inl (117, 117, 0, 0)], [])], [(0, 6), (4, 1), (8, 0), (8, 1), (8, 2), (8, 3), (8, 4), (8, 5), (8, 6), (8, 7), (8, 8), (8, 9), (8, 10), (8, 11), (8, 12), (8, 13), (8, 14), (8, 15)], [0, 1, 2, 3, 4, 5, 6, 7, 8], (4, 24), [1, 2, 3])
def u_X6_stroke_0 : List en_U := []
def x_X6_stroke_0 : en_Cx := ((en_KT, en_TY0, en_om0), en_FTX6, en_PTX6, [(85, false, 0, 0, 0, k_X6_cellAt_0), (114, false, 0, 4, 1, k_X6_needCell_0), (127, true, 12, 4, 0, k_X6_needPlayer_0), (182, true, 12, 4, 0, k_X6_needPlay_0), (189, true, 12, 4, 3, k_X6_needAim_0), (196, true, 12, 0, 0, k_X6_isMatch_0), (208, true, 12, 4, 3, k_X6_keepIfOutOfOrder_0), (217, true, 9, 0, 1, k_X3_isSeriousBreach_0), (220, true, 6, 4, 0, k_X0_playWrongly_0), (227, true, 12, 0, 2, k_X6_drawLanding_0), (231, true, 9, 0, 1, k_X3_outcomeAt_0), (234, false, 0, 0, 0, k_X6_stateAfter_0), (238, true, 6, 4, 0, k_X0_strike_0)], en_LTX6, en_LLX6, en_TTX6, en_ACX6)
def m_X6_stroke_0 : en_Mx := (k_X6_stroke_0, 4, 8, (0, 1), tb_X6_stroke, [])
set_option maxRecDepth 100000 in
theorem ck_X6_stroke_0 : en_all x_X6_stroke_0 m_X6_stroke_0 u_X6_stroke_0 73 = true := by decide +kernel
theorem ct_X6_stroke_0 {l : Launch} (hl : l.stackTraces = false) {PP : Int32 → Int32 → Prop} (hPP : en_P0 PP) (Ω : Nat → en_H → va_W → Prop) : en_Ctr l vwCl en_TY0 PP en_om0 Ω en_KT yX6_stroke (Cond.code yX6_stroke cX6_stroke 8 (some .char) :: en_cw) (en_rm 4 (4, 24)) 0 k_X6_stroke_0 :=
  en_main (X := x_X6_stroke_0) (M := m_X6_stroke_0) hPP en_f32_ok en_f64_ok hl (by decide +kernel) ⟨en_FTX6_ok, en_PTX6_ok, en_ac (⟨yX6_cellAt, RX6, cX6_cellAt, 2, (some .int), by decide, ct_X6_cellAt_0 hl hPP Ω, fun h => Bool.noConfusion h, fun _ => gc_RX6_85s⟩) (en_ac (⟨yX6_needCell, RX6, cX6_needCell, 2, none, by decide, ct_X6_needCell_0 hl hPP Ω, fun h => Bool.noConfusion h, fun _ => gc_RX6_114s⟩) (en_ac (⟨yX6_needPlayer, RX6, cX6_needPlayer, 2, none, by decide, ct_X6_needPlayer_0 hl hPP Ω, fun _ => ⟨gc_RX6_127v, by decide, _, rfl, rfl⟩, fun h => Bool.noConfusion h⟩) (en_ac (⟨yX6_needPlay, RX6, cX6_needPlay, 1, none, by decide, ct_X6_needPlay_0 hl hPP Ω, fun _ => ⟨gc_RX6_182v, by decide, _, rfl, rfl⟩, fun h => Bool.noConfusion h⟩) (en_ac (⟨yX6_needAim, RX6, cX6_needAim, 3, none, by decide, ct_X6_needAim_0 hl hPP Ω, fun _ => ⟨gc_RX6_189v, by decide, _, rfl, rfl⟩, fun h => Bool.noConfusion h⟩) (en_ac (⟨yX6_isMatch, RX6, cX6_isMatch, 1, (some .boolean), by decide, ct_X6_isMatch_0 hl hPP Ω, fun _ => ⟨gc_RX6_196v, by decide, _, rfl, rfl⟩, fun h => Bool.noConfusion h⟩) (en_ac (⟨yX6_keepIfOutOfOrder, RX6, cX6_keepIfOutOfOrder, 2, none, by decide, ct_X6_keepIfOutOfOrder_0 hl hPP Ω, fun _ => ⟨gc_RX6_208v, by decide, _, rfl, rfl⟩, fun h => Bool.noConfusion h⟩) (en_ac (⟨yX3_isSeriousBreach, RX3, cX3_isSeriousBreach, 3, (some .boolean), by decide, ct_X3_isSeriousBreach_0 hl hPP Ω, fun _ => ⟨gc_RX6_217v, by decide, _, rfl, rfl⟩, fun h => Bool.noConfusion h⟩) (en_ac (⟨yX0_playWrongly, RX0, cX0_playWrongly, 2, none, by decide, ct_X0_playWrongly_0 hl hPP Ω, fun _ => ⟨gc_RX6_220v, by decide, _, rfl, rfl⟩, fun h => Bool.noConfusion h⟩) (en_ac (⟨yX6_drawLanding, RX6, cX6_drawLanding, 7, (some .int), by decide, ct_X6_drawLanding_0 hl hPP Ω, fun _ => ⟨gc_RX6_227v, by decide, _, rfl, rfl⟩, fun h => Bool.noConfusion h⟩) (en_ac (⟨yX3_outcomeAt, RX3, cX3_outcomeAt, 2, (some .char), by decide, ct_X3_outcomeAt_0 hl hPP Ω, fun _ => ⟨gc_RX6_231v, by decide, _, rfl, rfl⟩, fun h => Bool.noConfusion h⟩) (en_ac (⟨yX6_stateAfter, RX6, cX6_stateAfter, 1, (some .char), by decide, ct_X6_stateAfter_0 hl hPP Ω, fun h => Bool.noConfusion h, fun _ => gc_RX6_234s⟩) (en_ac (⟨yX0_strike, RX0, cX0_strike, 3, none, by decide, ct_X0_strike_0 hl hPP Ω, fun _ => ⟨gc_RX6_238v, by decide, _, rfl, rfl⟩, fun h => Bool.noConfusion h⟩) en_an)))))))))))), en_LTX6_ok, en_LLX6_ok, en_TTX6_ok hl, ⟨cw256, cw147⟩, en_ACX6_ok⟩ de_X6_stroke ck_X6_stroke_0
def tb_X6_strokes : en_Tb := [
  (22, [(0, .aload_n 0, 1), (1, .iload_n 1, 1), (2, .invokevirtual 127, 3), (5, .aload_n 0, 1), (6, .invokevirtual 167, 3), (9, .aload_n 0, 1), (10, .getfield 18, 3), (13, .iload_n 1, 1), (14, .aaload, 1), (15, .getfield 185, 3), (18, .getfield 283, 3), (21, .ireturn, 1)])]
set_option maxRecDepth 40000 in
theorem de_X6_strokes : en_De tb_X6_strokes cX6_strokes := by
  unfold en_De
  decide +kernel
def k_X6_strokes_0 : en_K := (2, ([.inr (.inl 0), .inl ((-2147483648), 2147483647, 0, 0)], []), [([.inr (.inl 0), .inl (0, 5, 0, 0), .inl ((-2147483648), 2147483647, 0, 0)], [])], [], [0, 2, 7, 8], (2, 12), [1, 3])
def u_X6_strokes_0 : List en_U := []
def x_X6_strokes_0 : en_Cx := ((en_KT, en_TY0, en_om0), en_FTX6, en_PTX6, [(127, true, 12, 4, 0, k_X6_needPlayer_0), (167, true, 12, 4, 0, k_X6_needRound_0)], en_LTX6, en_LLX6, en_TTX6, en_ACX6)
def m_X6_strokes_0 : en_Mx := (k_X6_strokes_0, 1, 2, (0, 0), tb_X6_strokes, [])
set_option maxRecDepth 100000 in
theorem ck_X6_strokes_0 : en_all x_X6_strokes_0 m_X6_strokes_0 u_X6_strokes_0 15 = true := by decide +kernel
theorem ct_X6_strokes_0 {l : Launch} (hl : l.stackTraces = false) {PP : Int32 → Int32 → Prop} (hPP : en_P0 PP) (Ω : Nat → en_H → va_W → Prop) : en_Ctr l vwCl en_TY0 PP en_om0 Ω en_KT yX6_strokes (Cond.code yX6_strokes cX6_strokes 2 (some .int) :: en_cw) (en_rm 1 (2, 12)) 0 k_X6_strokes_0 :=
  en_main (X := x_X6_strokes_0) (M := m_X6_strokes_0) hPP en_f32_ok en_f64_ok hl (by decide +kernel) ⟨en_FTX6_ok, en_PTX6_ok, en_ac (⟨yX6_needPlayer, RX6, cX6_needPlayer, 2, none, by decide, ct_X6_needPlayer_0 hl hPP Ω, fun _ => ⟨gc_RX6_127v, by decide, _, rfl, rfl⟩, fun h => Bool.noConfusion h⟩) (en_ac (⟨yX6_needRound, RX6, cX6_needRound, 1, none, by decide, ct_X6_needRound_0 hl hPP Ω, fun _ => ⟨gc_RX6_167v, by decide, _, rfl, rfl⟩, fun h => Bool.noConfusion h⟩) en_an), en_LTX6_ok, en_LLX6_ok, en_TTX6_ok hl, ⟨cw256, cw147⟩, en_ACX6_ok⟩ de_X6_strokes ck_X6_strokes_0
def tb_X6_suspend : en_Tb := [
  (16, [(0, .aload_n 0, 1), (1, .invokevirtual 167, 3), (4, .aload_n 0, 1), (5, .getfield 149, 3), (8, .istore_n 2, 1), (9, .aload_n 0, 1), (10, .iload_n 1, 1), (11, .putfield 149, 3), (14, .iload_n 2, 1), (15, .ireturn, 1)])]
set_option maxRecDepth 40000 in
theorem de_X6_suspend : en_De tb_X6_suspend cX6_suspend := by
  unfold en_De
  decide +kernel
def k_X6_suspend_0 : en_K := (2, ([.inr (.inl 0), .inl (0, 1, 0, 0)], []), [([.inr (.inl 0), .inl (0, 1, 0, 0), .inl (0, 1, 0, 0)], [(0, 0, 12, 1, 0, 0)])], [(0, 12)], [0], (1, 6), [1])
def u_X6_suspend_0 : List en_U := []
def x_X6_suspend_0 : en_Cx := ((en_KT, en_TY0, en_om0), en_FTX6, en_PTX6, [(167, true, 12, 4, 0, k_X6_needRound_0)], en_LTX6, en_LLX6, en_TTX6, en_ACX6)
def m_X6_suspend_0 : en_Mx := (k_X6_suspend_0, 1, 3, (0, 2), tb_X6_suspend, [])
set_option maxRecDepth 100000 in
theorem ck_X6_suspend_0 : en_all x_X6_suspend_0 m_X6_suspend_0 u_X6_suspend_0 13 = true := by decide +kernel
theorem ct_X6_suspend_0 {l : Launch} (hl : l.stackTraces = false) {PP : Int32 → Int32 → Prop} (hPP : en_P0 PP) (Ω : Nat → en_H → va_W → Prop) : en_Ctr l vwCl en_TY0 PP en_om0 Ω en_KT yX6_suspend (Cond.code yX6_suspend cX6_suspend 3 (some .boolean) :: en_cw) (en_rm 1 (1, 6)) 0 k_X6_suspend_0 :=
  en_main (X := x_X6_suspend_0) (M := m_X6_suspend_0) hPP en_f32_ok en_f64_ok hl (by decide +kernel) ⟨en_FTX6_ok, en_PTX6_ok, en_ac (⟨yX6_needRound, RX6, cX6_needRound, 1, none, by decide, ct_X6_needRound_0 hl hPP Ω, fun _ => ⟨gc_RX6_167v, by decide, _, rfl, rfl⟩, fun h => Bool.noConfusion h⟩) en_an, en_LTX6_ok, en_LLX6_ok, en_TTX6_ok hl, ⟨cw256, cw147⟩, en_ACX6_ok⟩ de_X6_suspend ck_X6_suspend_0
def tb_X6_together : en_Tb := [
  (28, [(0, .aload_n 0, 1), (1, .iload_n 1, 1), (2, .invokevirtual 127, 3), (5, .aload_n 0, 1), (6, .iload_n 2, 1), (7, .invokevirtual 127, 3), (10, .iload_n 1, 1), (11, .iload_n 2, 1), (12, .if_icmp .ne 14, 3), (15, .new 49, 3), (18, .dup, 1), (19, .ldc_w 486, 3), (22, .invokespecial 53, 3), (25, .athrow, 1), (26, .iconst 0, 1), (27, .istore_n 3, 1)]), 
  (59, [(28, .iconst 0, 1), (29, .istore 4, 2), (31, .iload 4, 2), (33, .aload_n 0, 1), (34, .getfield 62, 3), (37, .if_icmp .ge 124, 3), (40, .aload_n 0, 1), (41, .getfield 18, 3), (44, .iload_n 1, 1), (45, .aaload, 1), (46, .getfield 155, 3), (49, .iload 4, 2), (51, .invokevirtual 469, 3), (54, .ifCond .eq 7, 3), (57, .iconst 1, 1), (58, .goto 4, 3)]), 
  (91, [(61, .iconst 0, 1), (62, .istore 5, 2), (64, .aload_n 0, 1), (65, .getfield 18, 3), (68, .iload_n 2, 1), (69, .aaload, 1), (70, .getfield 155, 3), (73, .iload 4, 2), (75, .invokevirtual 469, 3), (78, .ifCond .eq 7, 3), (81, .iconst 1, 1), (82, .goto 4, 3), (85, .iconst 0, 1), (86, .istore 6, 2), (88, .iload 5, 2), (90, .ifCond .ne 19, 3)]), 
  (126, [(93, .iload 6, 2), (95, .ifCond .ne 14, 3), (98, .new 177, 3), (101, .dup, 1), (102, .ldc_w 488, 3), (105, .invokespecial 181, 3), (108, .athrow, 1), (109, .aload_n 0, 1), (110, .iload 5, 2), (112, .ifCond .eq 7, 3), (115, .iload_n 1, 1), (116, .goto 4, 3), (119, .iload_n 2, 1), (120, .iload 4, 2), (122, .invokevirtual 472, 3), (125, .istore 7, 2)]), 
  (156, [(127, .aload_n 0, 1), (128, .iload 6, 2), (130, .ifCond .eq 7, 3), (133, .iload_n 2, 1), (134, .goto 4, 3), (137, .iload_n 1, 1), (138, .iload 4, 2), (140, .invokevirtual 472, 3), (143, .istore 8, 2), (145, .iload_n 3, 1), (146, .iload 7, 2), (148, .iload 8, 2), (150, .invokestatic 490, 3), (153, .iadd, 1), (154, .istore_n 3, 1), (155, .iinc 4 1, 3)]), 
  (163, [(158, .goto (-127), 3), (161, .iload_n 3, 1), (162, .ireturn, 1)])]
set_option maxRecDepth 40000 in
theorem de_X6_together : en_De tb_X6_together cX6_together := by
  unfold en_De
  decide +kernel
def k_X6_together_0 : en_K := (3, ([.inr (.inl 0), .inl ((-2147483648), 2147483647, 0, 0), .inl ((-2147483648), 2147483647, 0, 0)], []), [([.inr (.inl 0), .inl (0, 5, 0, 0), .inl (0, 5, 0, 0), .inl ((-2147483648), 2147483647, 0, 0)], [(12, 1, 2, 0, 0, 0)])], [], [0, 1, 2, 5, 7, 9, 10], (3, 18), [0, 3, 4])
def u_X6_together_0 : List en_U := [
  (31, ([.inr (.inl 0), .inl (0, 5, 0, 0), .inl (0, 5, 0, 0), .inl (0, 9, 0, 0), .inl ((-2147483648), 2147483647, 0, 0)], [(12, 1, 2, 0, 0, 0)]), [(0, 0), (1, 1), (2, 2), (4, 3), (3, 4)], (2, 12), [((-2), 3)], 22)]
def x_X6_together_0 : en_Cx := ((en_KT, en_TY0, en_om0), en_FTX6, en_PTX6, [(127, true, 12, 4, 0, k_X6_needPlayer_0), (469, true, 7, 0, 0, k_X1_writtenOn_0), (472, true, 12, 0, 1, k_X6_netScore_0), (490, false, 0, 0, 0, k_J9_min_7cf53_0)], en_LTX6, en_LLX6, en_TTX6, en_ACX6)
def m_X6_together_0 : en_Mx := (k_X6_together_0, 2, 9, (0, 0), tb_X6_together, [])
set_option maxRecDepth 100000 in
theorem ck_X6_together_0 : en_all x_X6_together_0 m_X6_together_0 u_X6_together_0 55 = true := by decide +kernel
theorem ct_X6_together_0 {l : Launch} (hl : l.stackTraces = false) {PP : Int32 → Int32 → Prop} (hPP : en_P0 PP) (Ω : Nat → en_H → va_W → Prop) : en_Ctr l vwCl en_TY0 PP en_om0 Ω en_KT yX6_together (Cond.code yX6_together cX6_together 9 (some .int) :: en_cw) (en_rm 2 (3, 18)) 0 k_X6_together_0 :=
  en_main (X := x_X6_together_0) (M := m_X6_together_0) hPP en_f32_ok en_f64_ok hl (by decide +kernel) ⟨en_FTX6_ok, en_PTX6_ok, en_ac (⟨yX6_needPlayer, RX6, cX6_needPlayer, 2, none, by decide, ct_X6_needPlayer_0 hl hPP Ω, fun _ => ⟨gc_RX6_127v, by decide, _, rfl, rfl⟩, fun h => Bool.noConfusion h⟩) (en_ac (⟨yX1_writtenOn, RX1, cX1_writtenOn, 2, (some .int), by decide, ct_X1_writtenOn_0 hl hPP Ω, fun _ => ⟨gc_RX6_469v, by decide, _, rfl, rfl⟩, fun h => Bool.noConfusion h⟩) (en_ac (⟨yX6_netScore, RX6, cX6_netScore, 3, (some .int), by decide, ct_X6_netScore_0 hl hPP Ω, fun _ => ⟨gc_RX6_472v, by decide, _, rfl, rfl⟩, fun h => Bool.noConfusion h⟩) (en_ac (⟨yJ9_min_7cf53, RJ9, cJ9_min_7cf53, 2, (some .int), by decide, ct_J9_min_7cf53_0 hl hPP Ω, fun h => Bool.noConfusion h, fun _ => gc_RX6_490s⟩) en_an))), en_LTX6_ok, en_LLX6_ok, en_TTX6_ok hl, ⟨cw256, cw147⟩, en_ACX6_ok⟩ de_X6_together ck_X6_together_0
def tb_X1_isWrittenOn : en_Tb := [
  (25, [(0, .iconst 0, 1), (1, .istore_n 2, 1), (2, .iload_n 2, 1), (3, .iload_n 1, 1), (4, .if_icmp .ge 19, 3), (7, .aload_n 0, 1), (8, .iload_n 2, 1), (9, .invokevirtual 51, 3), (12, .ifCond .ne 5, 3), (15, .iconst 0, 1), (16, .ireturn, 1), (17, .iinc 2 1, 3), (20, .goto (-18), 3), (23, .iconst 1, 1), (24, .ireturn, 1)])]
set_option maxRecDepth 40000 in
theorem de_X1_isWrittenOn : en_De tb_X1_isWrittenOn cX1_isWrittenOn := by
  unfold en_De
  decide +kernel
def k_X1_isWrittenOn_0 : en_K := (2, ([.inr (.inl 9), .inl (0, 9, 0, 0)], []), [([.inr (.inl 9), .inl (1, 9, 0, 0), .inl (0, 0, 0, 0)], []), ([.inr (.inl 9), .inl (0, 9, 0, 0), .inl (1, 1, 0, 0)], [])], [], [9, 10], (0, 0), [])
def u_X1_isWrittenOn_0 : List en_U := [
  (2, ([.inr (.inl 9), .inl (0, 9, 0, 0), .inl (0, 9, 0, 0)], []), [(0, 0), (1, 1), (2, 2)], (0, 0), [((-2), 2)], 22)]
def x_X1_isWrittenOn_0 : en_Cx := ((en_KT, en_TY0, en_om0), en_FTX1, en_PTX1, [(51, true, 7, 0, 0, k_X1_writtenOn_0)], en_LTX1, en_LLX1, en_TTX1, en_ACX1)
def m_X1_isWrittenOn_0 : en_Mx := (k_X1_isWrittenOn_0, 1, 3, (0, 2), tb_X1_isWrittenOn, [])
set_option maxRecDepth 100000 in
theorem ck_X1_isWrittenOn_0 : en_all x_X1_isWrittenOn_0 m_X1_isWrittenOn_0 u_X1_isWrittenOn_0 12 = true := by decide +kernel
theorem ct_X1_isWrittenOn_0 {l : Launch} (hl : l.stackTraces = false) {PP : Int32 → Int32 → Prop} (hPP : en_P0 PP) (Ω : Nat → en_H → va_W → Prop) : en_Ctr l vwCl en_TY0 PP en_om0 Ω en_KT yX1_isWrittenOn (Cond.code yX1_isWrittenOn cX1_isWrittenOn 3 (some .boolean) :: en_cw) (en_rm 1 (0, 0)) 0 k_X1_isWrittenOn_0 :=
  en_main (X := x_X1_isWrittenOn_0) (M := m_X1_isWrittenOn_0) hPP en_f32_ok en_f64_ok hl (by decide +kernel) ⟨en_FTX1_ok, en_PTX1_ok, en_ac (⟨yX1_writtenOn, RX1, cX1_writtenOn, 2, (some .int), by decide, ct_X1_writtenOn_0 hl hPP Ω, fun _ => ⟨gc_RX1_51v, by decide, _, rfl, rfl⟩, fun h => Bool.noConfusion h⟩) en_an, en_LTX1_ok, en_LLX1_ok, en_TTX1_ok hl, ⟨cw256, cw147⟩, en_ACX1_ok⟩ de_X1_isWrittenOn ck_X1_isWrittenOn_0
def tb_X6_total : en_Tb := [
  (30, [(0, .aload_n 0, 1), (1, .iload_n 1, 1), (2, .invokevirtual 127, 3), (5, .aload_n 0, 1), (6, .getfield 18, 3), (9, .iload_n 1, 1), (10, .aaload, 1), (11, .getfield 155, 3), (14, .astore_n 2, 1), (15, .aload_n 2, 1), (16, .aload_n 0, 1), (17, .getfield 62, 3), (20, .invokevirtual 461, 3), (23, .ifCond .ne 14, 3), (26, .new 177, 3), (29, .dup, 1)]), 
  (47, [(30, .ldc_w 464, 3), (33, .invokespecial 181, 3), (36, .athrow, 1), (37, .aload_n 2, 1), (38, .iconst 0, 1), (39, .aload_n 0, 1), (40, .getfield 62, 3), (43, .invokevirtual 466, 3), (46, .ireturn, 1)])]
set_option maxRecDepth 40000 in
theorem de_X6_total : en_De tb_X6_total cX6_total := by
  unfold en_De
  decide +kernel
def k_X6_total_0 : en_K := (2, ([.inr (.inl 0), .inl ((-2147483648), 2147483647, 0, 0)], []), [([.inr (.inl 0), .inl (0, 5, 0, 0), .inl ((-2147483648), 2147483647, 0, 0)], [])], [], [0, 2, 7, 9, 10], (2, 12), [3, 4])
def u_X6_total_0 : List en_U := []
def x_X6_total_0 : en_Cx := ((en_KT, en_TY0, en_om0), en_FTX6, en_PTX6, [(127, true, 12, 4, 0, k_X6_needPlayer_0), (461, true, 7, 0, 1, k_X1_isWrittenOn_0), (466, true, 7, 0, 1, k_X1_sumFrom_0)], en_LTX6, en_LLX6, en_TTX6, en_ACX6)
def m_X6_total_0 : en_Mx := (k_X6_total_0, 2, 3, (0, 0), tb_X6_total, [])
set_option maxRecDepth 100000 in
theorem ck_X6_total_0 : en_all x_X6_total_0 m_X6_total_0 u_X6_total_0 23 = true := by decide +kernel
theorem ct_X6_total_0 {l : Launch} (hl : l.stackTraces = false) {PP : Int32 → Int32 → Prop} (hPP : en_P0 PP) (Ω : Nat → en_H → va_W → Prop) : en_Ctr l vwCl en_TY0 PP en_om0 Ω en_KT yX6_total (Cond.code yX6_total cX6_total 3 (some .int) :: en_cw) (en_rm 2 (2, 12)) 0 k_X6_total_0 :=
  en_main (X := x_X6_total_0) (M := m_X6_total_0) hPP en_f32_ok en_f64_ok hl (by decide +kernel) ⟨en_FTX6_ok, en_PTX6_ok, en_ac (⟨yX6_needPlayer, RX6, cX6_needPlayer, 2, none, by decide, ct_X6_needPlayer_0 hl hPP Ω, fun _ => ⟨gc_RX6_127v, by decide, _, rfl, rfl⟩, fun h => Bool.noConfusion h⟩) (en_ac (⟨yX1_isWrittenOn, RX1, cX1_isWrittenOn, 3, (some .boolean), by decide, ct_X1_isWrittenOn_0 hl hPP Ω, fun _ => ⟨gc_RX6_461v, by decide, _, rfl, rfl⟩, fun h => Bool.noConfusion h⟩) (en_ac (⟨yX1_sumFrom, RX1, cX1_sumFrom, 5, (some .int), by decide, ct_X1_sumFrom_0 hl hPP Ω, fun _ => ⟨gc_RX6_466v, by decide, _, rfl, rfl⟩, fun h => Bool.noConfusion h⟩) en_an)), en_LTX6_ok, en_LLX6_ok, en_TTX6_ok hl, ⟨cw256, cw147⟩, en_ACX6_ok⟩ de_X6_total ck_X6_total_0
def tb_X6_up : en_Tb := [
  (12, [(0, .aload_n 0, 1), (1, .invokevirtual 427, 3), (4, .aload_n 0, 1), (5, .getfield 30, 3), (8, .getfield 396, 3), (11, .ireturn, 1)])]
set_option maxRecDepth 40000 in
theorem de_X6_up : en_De tb_X6_up cX6_up := by
  unfold en_De
  decide +kernel
def k_X6_up_0 : en_K := (1, ([.inr (.inl 0)], []), [([.inr (.inl 0), .inl ((-2147483648), 2147483647, 0, 0)], [])], [], [0, 4], (1, 6), [2])
def u_X6_up_0 : List en_U := []
def x_X6_up_0 : en_Cx := ((en_KT, en_TY0, en_om0), en_FTX6, en_PTX6, [(427, true, 12, 4, 1, k_X6_needMatch_0)], en_LTX6, en_LLX6, en_TTX6, en_ACX6)
def m_X6_up_0 : en_Mx := (k_X6_up_0, 2, 1, (0, 0), tb_X6_up, [])
set_option maxRecDepth 100000 in
theorem ck_X6_up_0 : en_all x_X6_up_0 m_X6_up_0 u_X6_up_0 9 = true := by decide +kernel
theorem ct_X6_up_0 {l : Launch} (hl : l.stackTraces = false) {PP : Int32 → Int32 → Prop} (hPP : en_P0 PP) (Ω : Nat → en_H → va_W → Prop) : en_Ctr l vwCl en_TY0 PP en_om0 Ω en_KT yX6_up (Cond.code yX6_up cX6_up 1 (some .int) :: en_cw) (en_rm 2 (1, 6)) 0 k_X6_up_0 :=
  en_main (X := x_X6_up_0) (M := m_X6_up_0) hPP en_f32_ok en_f64_ok hl (by decide +kernel) ⟨en_FTX6_ok, en_PTX6_ok, en_ac (⟨yX6_needMatch, RX6, cX6_needMatch, 1, none, by decide, ct_X6_needMatch_0 hl hPP Ω, fun _ => ⟨gc_RX6_427v, by decide, _, rfl, rfl⟩, fun h => Bool.noConfusion h⟩) en_an, en_LTX6_ok, en_LLX6_ok, en_TTX6_ok hl, ⟨cw256, cw147⟩, en_ACX6_ok⟩ de_X6_up ck_X6_up_0
def tb_X6_write : en_Tb := [
  (29, [(0, .aload_n 0, 1), (1, .iload_n 1, 1), (2, .invokevirtual 127, 3), (5, .aload_n 0, 1), (6, .iload_n 2, 1), (7, .invokevirtual 95, 3), (10, .iload_n 3, 1), (11, .iconst 1, 1), (12, .if_icmp .lt 9, 3), (15, .iload_n 3, 1), (16, .bipush 99, 2), (18, .if_icmp .le 14, 3), (21, .new 49, 3), (24, .dup, 1), (25, .ldc_w 438, 3), (28, .invokespecial 53, 3)]), 
  (63, [(31, .athrow, 1), (32, .aload_n 0, 1), (33, .getfield 18, 3), (36, .iload_n 1, 1), (37, .aaload, 1), (38, .getfield 155, 3), (41, .astore 4, 2), (43, .aload_n 0, 1), (44, .invokevirtual 440, 3), (47, .ifCond .eq 11, 3), (50, .aload 4, 2), (52, .getfield 443, 3), (55, .ifCond .eq 14, 3), (58, .new 74, 3), (61, .dup, 1), (62, .ldc_w 446, 3)]), 
  (89, [(65, .invokespecial 78, 3), (68, .athrow, 1), (69, .aload 4, 2), (71, .getfield 448, 3), (74, .iload_n 2, 1), (75, .iaload, 1), (76, .istore 5, 2), (78, .aload 4, 2), (80, .getfield 448, 3), (83, .iload_n 2, 1), (84, .iload_n 3, 1), (85, .iastore, 1), (86, .iload 5, 2), (88, .ireturn, 1)])]
set_option maxRecDepth 40000 in
theorem de_X6_write : en_De tb_X6_write cX6_write := by
  unfold en_De
  decide +kernel
def k_X6_write_0 : en_K := (4, ([.inr (.inl 0), .inl ((-2147483648), 2147483647, 0, 0), .inl ((-2147483648), 2147483647, 0, 0), .inl ((-2147483648), 2147483647, 0, 0)], []), [([.inr (.inl 0), .inl (0, 5, 0, 0), .inl (0, 8, 0, 0), .inl (1, 99, 0, 0), .inl ((-2147483648), 2147483647, 0, 0), .inl (1, 1, 0, 0)], [(0, 0, 10, 5, 0, 0), (6, 5, 0, 0, 0, 0)])], [(10, 0)], [0, 2, 7, 9, 10], (3, 18), [0, 2, 3])
def u_X6_write_0 : List en_U := []
def x_X6_write_0 : en_Cx := ((en_KT, en_TY0, en_om0), en_FTX6, en_PTX6, [(95, true, 12, 4, 0, k_X6_needHole_0), (127, true, 12, 4, 0, k_X6_needPlayer_0), (440, true, 12, 0, 0, k_X6_isRoundOver_0)], en_LTX6, en_LLX6, en_TTX6, en_ACX6)
def m_X6_write_0 : en_Mx := (k_X6_write_0, 1, 6, (0, 0), tb_X6_write, [])
set_option maxRecDepth 100000 in
theorem ck_X6_write_0 : en_all x_X6_write_0 m_X6_write_0 u_X6_write_0 39 = true := by decide +kernel
theorem ct_X6_write_0 {l : Launch} (hl : l.stackTraces = false) {PP : Int32 → Int32 → Prop} (hPP : en_P0 PP) (Ω : Nat → en_H → va_W → Prop) : en_Ctr l vwCl en_TY0 PP en_om0 Ω en_KT yX6_write (Cond.code yX6_write cX6_write 6 (some .int) :: en_cw) (en_rm 1 (3, 18)) 0 k_X6_write_0 :=
  en_main (X := x_X6_write_0) (M := m_X6_write_0) hPP en_f32_ok en_f64_ok hl (by decide +kernel) ⟨en_FTX6_ok, en_PTX6_ok, en_ac (⟨yX6_needHole, RX6, cX6_needHole, 2, none, by decide, ct_X6_needHole_0 hl hPP Ω, fun _ => ⟨gc_RX6_95v, by decide, _, rfl, rfl⟩, fun h => Bool.noConfusion h⟩) (en_ac (⟨yX6_needPlayer, RX6, cX6_needPlayer, 2, none, by decide, ct_X6_needPlayer_0 hl hPP Ω, fun _ => ⟨gc_RX6_127v, by decide, _, rfl, rfl⟩, fun h => Bool.noConfusion h⟩) (en_ac (⟨yX6_isRoundOver, RX6, cX6_isRoundOver, 1, (some .boolean), by decide, ct_X6_isRoundOver_0 hl hPP Ω, fun _ => ⟨gc_RX6_440v, by decide, _, rfl, rfl⟩, fun h => Bool.noConfusion h⟩) en_an)), en_LTX6_ok, en_LLX6_ok, en_TTX6_ok hl, ⟨cw256, cw147⟩, en_ACX6_ok⟩ de_X6_write ck_X6_write_0
