def tb_X6_wrongBall : en_Tb := [
  (26, [(0, .aload_n 0, 1), (1, .iload_n 1, 1), (2, .invokevirtual 127, 3), (5, .aload_n 0, 1), (6, .iload_n 2, 1), (7, .invokevirtual 127, 3), (10, .aload_n 0, 1), (11, .invokevirtual 167, 3), (14, .aload_n 0, 1), (15, .getfield 18, 3), (18, .iload_n 1, 1), (19, .aaload, 1), (20, .getfield 185, 3), (23, .astore_n 3, 1), (24, .iload_n 1, 1), (25, .iload_n 2, 1)]), 
  (62, [(26, .if_icmp .eq 25, 3), (29, .aload_n 3, 1), (30, .invokevirtual 294, 3), (33, .ifCond .eq 18, 3), (36, .aload_n 0, 1), (37, .getfield 18, 3), (40, .iload_n 2, 1), (41, .aaload, 1), (42, .getfield 185, 3), (45, .invokevirtual 294, 3), (48, .ifCond .ne 14, 3), (51, .new 74, 3), (54, .dup, 1), (55, .ldc_w 361, 3), (58, .invokespecial 78, 3), (61, .athrow, 1)]), 
  (93, [(62, .aload_n 0, 1), (63, .getfield 30, 3), (66, .iconst (-1), 1), (67, .putfield 193, 3), (70, .aload_n 0, 1), (71, .invokevirtual 196, 3), (74, .ifCond .eq 12, 3), (77, .aload_n 3, 1), (78, .bipush 117, 2), (80, .putfield 205, 3), (83, .goto 13, 3), (86, .aload_n 3, 1), (87, .dup, 1), (88, .getfield 358, 3), (91, .iconst 2, 1), (92, .iadd, 1)]), 
  (101, [(93, .putfield 358, 3), (96, .aload_n 3, 1), (97, .invokevirtual 351, 3), (100, .ireturn, 1)])]
set_option maxRecDepth 40000 in
theorem de_X6_wrongBall : en_De tb_X6_wrongBall cX6_wrongBall := by
  unfold en_De
  decide +kernel
def k_X6_wrongBall_0 : en_K := (3, ([.inr (.inl 0), .inl ((-2147483648), 2147483647, 0, 0), .inl ((-2147483648), 2147483647, 0, 0)], []), [([.inr (.inl 0), .inl (0, 5, 0, 0), .inl (0, 5, 0, 0), .inl ((-2147483648), 2147483647, 0, 0)], [(12, 1, 2, 0, 0, 0)])], [(4, 1), (8, 0), (8, 6)], [0, 2, 4, 7, 8], (4, 24), [1, 2, 3])
def u_X6_wrongBall_0 : List en_U := []
def x_X6_wrongBall_0 : en_Cx := ((en_KT, en_TY0, en_om0), en_FTX6, en_PTX6, [(127, true, 12, 4, 0, k_X6_needPlayer_0), (167, true, 12, 4, 0, k_X6_needRound_0), (196, true, 12, 0, 0, k_X6_isMatch_0), (294, true, 6, 0, 0, k_X0_isAtRest_0), (351, true, 6, 0, 0, k_X0_scoreSoFar_0)], en_LTX6, en_LLX6, en_TTX6, en_ACX6)
def m_X6_wrongBall_0 : en_Mx := (k_X6_wrongBall_0, 1, 4, (0, 0), tb_X6_wrongBall, [])
set_option maxRecDepth 100000 in
theorem ck_X6_wrongBall_0 : en_all x_X6_wrongBall_0 m_X6_wrongBall_0 u_X6_wrongBall_0 46 = true := by decide +kernel
theorem ct_X6_wrongBall_0 {l : Launch} (hl : l.stackTraces = false) {PP : Int32 → Int32 → Prop} (hPP : en_P0 PP) (Ω : Nat → en_H → va_W → Prop) : en_Ctr l vwCl en_TY0 PP en_om0 Ω en_KT yX6_wrongBall (Cond.code yX6_wrongBall cX6_wrongBall 4 (some .int) :: en_cw) (en_rm 1 (4, 24)) 0 k_X6_wrongBall_0 :=
  en_main (X := x_X6_wrongBall_0) (M := m_X6_wrongBall_0) hPP en_f32_ok en_f64_ok hl (by decide +kernel) ⟨en_FTX6_ok, en_PTX6_ok, en_ac (⟨yX6_needPlayer, RX6, cX6_needPlayer, 2, none, by decide, ct_X6_needPlayer_0 hl hPP Ω, fun _ => ⟨gc_RX6_127v, by decide, _, rfl, rfl⟩, fun h => Bool.noConfusion h⟩) (en_ac (⟨yX6_needRound, RX6, cX6_needRound, 1, none, by decide, ct_X6_needRound_0 hl hPP Ω, fun _ => ⟨gc_RX6_167v, by decide, _, rfl, rfl⟩, fun h => Bool.noConfusion h⟩) (en_ac (⟨yX6_isMatch, RX6, cX6_isMatch, 1, (some .boolean), by decide, ct_X6_isMatch_0 hl hPP Ω, fun _ => ⟨gc_RX6_196v, by decide, _, rfl, rfl⟩, fun h => Bool.noConfusion h⟩) (en_ac (⟨yX0_isAtRest, RX0, cX0_isAtRest, 1, (some .boolean), by decide, ct_X0_isAtRest_0 hl hPP Ω, fun _ => ⟨gc_RX6_294v, by decide, _, rfl, rfl⟩, fun h => Bool.noConfusion h⟩) (en_ac (⟨yX0_scoreSoFar, RX0, cX0_scoreSoFar, 1, (some .int), by decide, ct_X0_scoreSoFar_0 hl hPP Ω, fun _ => ⟨gc_RX6_351v, by decide, _, rfl, rfl⟩, fun h => Bool.noConfusion h⟩) en_an)))), en_LTX6_ok, en_LLX6_ok, en_TTX6_ok hl, ⟨cw256, cw147⟩, en_ACX6_ok⟩ de_X6_wrongBall ck_X6_wrongBall_0
def tb_X0_putWrongly : en_Tb := [
  (30, [(0, .aload_n 0, 1), (1, .aload_n 0, 1), (2, .getfield 15, 3), (5, .putfield 47, 3), (8, .aload_n 0, 1), (9, .aload_n 0, 1), (10, .getfield 23, 3), (13, .putfield 50, 3), (16, .aload_n 0, 1), (17, .aload_n 0, 1), (18, .getfield 26, 3), (21, .putfield 53, 3), (24, .aload_n 0, 1), (25, .aload_n 0, 1), (26, .getfield 29, 3), (29, .putfield 56, 3)]), 
  (51, [(32, .aload_n 0, 1), (33, .aload_n 0, 1), (34, .getfield 32, 3), (37, .putfield 59, 3), (40, .aload_n 0, 1), (41, .iload_n 1, 1), (42, .putfield 15, 3), (45, .aload_n 0, 1), (46, .iconst 1, 1), (47, .putfield 38, 3), (50, .return_, 1)])]
set_option maxRecDepth 40000 in
theorem de_X0_putWrongly : en_De tb_X0_putWrongly cX0_putWrongly := by
  unfold en_De
  decide +kernel
def k_X0_putWrongly_0 : en_K := (2, ([.inr (.inl 8), .inl ((-2147483648), 2147483647, 0, 0)], []), [([.inr (.inl 8), .inl ((-2147483648), 2147483647, 0, 0)], [(0, 0, 1, 1, 0, 0)])], [(8, 1), (8, 9), (8, 11), (8, 12), (8, 13), (8, 14), (8, 15)], [8], (0, 0), [])
def u_X0_putWrongly_0 : List en_U := []
def x_X0_putWrongly_0 : en_Cx := ((en_KT, en_TY0, en_om0), en_FTX0, en_PTX0, [], en_LTX0, en_LLX0, en_TTX0, en_ACX0)
def m_X0_putWrongly_0 : en_Mx := (k_X0_putWrongly_0, 0, 2, (4, 0), tb_X0_putWrongly, [])
set_option maxRecDepth 100000 in
theorem ck_X0_putWrongly_0 : en_all x_X0_putWrongly_0 m_X0_putWrongly_0 u_X0_putWrongly_0 30 = true := by decide +kernel
theorem ct_X0_putWrongly_0 {l : Launch} (hl : l.stackTraces = false) {PP : Int32 → Int32 → Prop} (hPP : en_P0 PP) (Ω : Nat → en_H → va_W → Prop) : en_Ctr l vwCl en_TY0 PP en_om0 Ω en_KT yX0_putWrongly (Cond.code yX0_putWrongly cX0_putWrongly 2 none :: en_cw) (en_rm 0 (0, 0)) 4 k_X0_putWrongly_0 :=
  en_main (X := x_X0_putWrongly_0) (M := m_X0_putWrongly_0) hPP en_f32_ok en_f64_ok hl (by decide +kernel) ⟨en_FTX0_ok, en_PTX0_ok, en_an, en_LTX0_ok, en_LLX0_ok, en_TTX0_ok hl, ⟨cw256, cw147⟩, en_ACX0_ok⟩ de_X0_putWrongly ck_X0_putWrongly_0
def tb_X6_wrongPlace : en_Tb := [
  (27, [(0, .aload_n 0, 1), (1, .iload_n 1, 1), (2, .invokevirtual 127, 3), (5, .iload_n 2, 1), (6, .iload_n 3, 1), (7, .invokestatic 114, 3), (10, .aload_n 0, 1), (11, .invokevirtual 167, 3), (14, .aload_n 0, 1), (15, .getfield 18, 3), (18, .iload_n 1, 1), (19, .aaload, 1), (20, .getfield 185, 3), (23, .astore 4, 2), (25, .aload_n 0, 1), (26, .getfield 11, 3)]), 
  (62, [(29, .aload_n 0, 1), (30, .getfield 170, 3), (33, .aaload, 1), (34, .astore 5, 2), (36, .iload_n 2, 1), (37, .iload_n 3, 1), (38, .invokestatic 85, 3), (41, .istore 6, 2), (43, .aload 4, 2), (45, .invokevirtual 294, 3), (48, .ifCond .eq 31, 3), (51, .aload 4, 2), (53, .getfield 335, 3), (56, .ifCond .ne 23, 3), (59, .aload 4, 2), (61, .getfield 211, 3)]), 
  (99, [(64, .iload 6, 2), (66, .if_icmp .eq 13, 3), (69, .aload 5, 2), (71, .iload 6, 2), (73, .invokevirtual 338, 3), (76, .ifCond .ne 14, 3), (79, .new 74, 3), (82, .dup, 1), (83, .ldc_w 341, 3), (86, .invokespecial 78, 3), (89, .athrow, 1), (90, .aload_n 0, 1), (91, .getfield 30, 3), (94, .iconst (-1), 1), (95, .putfield 193, 3), (98, .aload 4, 2)]), 
  (118, [(100, .iload 6, 2), (102, .invokevirtual 343, 3), (105, .aload 5, 2), (107, .iload 6, 2), (109, .aload 4, 2), (111, .getfield 214, 3), (114, .invokevirtual 217, 3), (117, .ireturn, 1)])]
set_option maxRecDepth 40000 in
theorem de_X6_wrongPlace : en_De tb_X6_wrongPlace cX6_wrongPlace := by
  unfold en_De
  decide +kernel
def k_X6_wrongPlace_0 : en_K := (4, ([.inr (.inl 0), .inl ((-2147483648), 2147483647, 0, 0), .inl ((-2147483648), 2147483647, 0, 0), .inl ((-2147483648), 2147483647, 0, 0)], []), [([.inr (.inl 0), .inl (0, 5, 0, 0), .inl (0, 29, 0, 0), .inl (0, 19, 0, 0), .inl (0, 0, 0, 0)], []), ([.inr (.inl 0), .inl (0, 5, 0, 0), .inl (0, 29, 0, 0), .inl (0, 19, 0, 0), .inl (1, 1, 0, 0)], [])], [(4, 1), (8, 1), (8, 9), (8, 11), (8, 12), (8, 13), (8, 14), (8, 15)], [0, 1, 2, 4, 5, 6, 7, 8], (4, 24), [1, 2, 3])
def u_X6_wrongPlace_0 : List en_U := []
def x_X6_wrongPlace_0 : en_Cx := ((en_KT, en_TY0, en_om0), en_FTX6, en_PTX6, [(85, false, 0, 0, 0, k_X6_cellAt_0), (114, false, 0, 4, 1, k_X6_needCell_0), (127, true, 12, 4, 0, k_X6_needPlayer_0), (167, true, 12, 4, 0, k_X6_needRound_0), (217, true, 9, 0, 1, k_X3_isSeriousBreach_0), (294, true, 6, 0, 0, k_X0_isAtRest_0), (338, true, 9, 0, 2, k_X3_isOpen_0), (343, true, 6, 4, 0, k_X0_putWrongly_0)], en_LTX6, en_LLX6, en_TTX6, en_ACX6)
def m_X6_wrongPlace_0 : en_Mx := (k_X6_wrongPlace_0, 3, 7, (0, 2), tb_X6_wrongPlace, [])
set_option maxRecDepth 100000 in
theorem ck_X6_wrongPlace_0 : en_all x_X6_wrongPlace_0 m_X6_wrongPlace_0 u_X6_wrongPlace_0 54 = true := by decide +kernel
theorem ct_X6_wrongPlace_0 {l : Launch} (hl : l.stackTraces = false) {PP : Int32 → Int32 → Prop} (hPP : en_P0 PP) (Ω : Nat → en_H → va_W → Prop) : en_Ctr l vwCl en_TY0 PP en_om0 Ω en_KT yX6_wrongPlace (Cond.code yX6_wrongPlace cX6_wrongPlace 7 (some .boolean) :: en_cw) (en_rm 3 (4, 24)) 0 k_X6_wrongPlace_0 :=
  en_main (X := x_X6_wrongPlace_0) (M := m_X6_wrongPlace_0) hPP en_f32_ok en_f64_ok hl (by decide +kernel) ⟨en_FTX6_ok, en_PTX6_ok, en_ac (⟨yX6_cellAt, RX6, cX6_cellAt, 2, (some .int), by decide, ct_X6_cellAt_0 hl hPP Ω, fun h => Bool.noConfusion h, fun _ => gc_RX6_85s⟩) (en_ac (⟨yX6_needCell, RX6, cX6_needCell, 2, none, by decide, ct_X6_needCell_0 hl hPP Ω, fun h => Bool.noConfusion h, fun _ => gc_RX6_114s⟩) (en_ac (⟨yX6_needPlayer, RX6, cX6_needPlayer, 2, none, by decide, ct_X6_needPlayer_0 hl hPP Ω, fun _ => ⟨gc_RX6_127v, by decide, _, rfl, rfl⟩, fun h => Bool.noConfusion h⟩) (en_ac (⟨yX6_needRound, RX6, cX6_needRound, 1, none, by decide, ct_X6_needRound_0 hl hPP Ω, fun _ => ⟨gc_RX6_167v, by decide, _, rfl, rfl⟩, fun h => Bool.noConfusion h⟩) (en_ac (⟨yX3_isSeriousBreach, RX3, cX3_isSeriousBreach, 3, (some .boolean), by decide, ct_X3_isSeriousBreach_0 hl hPP Ω, fun _ => ⟨gc_RX6_217v, by decide, _, rfl, rfl⟩, fun h => Bool.noConfusion h⟩) (en_ac (⟨yX0_isAtRest, RX0, cX0_isAtRest, 1, (some .boolean), by decide, ct_X0_isAtRest_0 hl hPP Ω, fun _ => ⟨gc_RX6_294v, by decide, _, rfl, rfl⟩, fun h => Bool.noConfusion h⟩) (en_ac (⟨yX3_isOpen, RX3, cX3_isOpen, 3, (some .boolean), by decide, ct_X3_isOpen_0 hl hPP Ω, fun _ => ⟨gc_RX6_338v, by decide, _, rfl, rfl⟩, fun h => Bool.noConfusion h⟩) (en_ac (⟨yX0_putWrongly, RX0, cX0_putWrongly, 2, none, by decide, ct_X0_putWrongly_0 hl hPP Ω, fun _ => ⟨gc_RX6_343v, by decide, _, rfl, rfl⟩, fun h => Bool.noConfusion h⟩) en_an))))))), en_LTX6_ok, en_LLX6_ok, en_TTX6_ok hl, ⟨cw256, cw147⟩, en_ACX6_ok⟩ de_X6_wrongPlace ck_X6_wrongPlace_0
def k_X6_begin_1 : en_K := (2, ([.inr (.inl 0), .inl (0, 108, 0, 0)], []), [], [], [], (1, 6), [0])
def u_X6_begin_1 : List en_U := []
def x_X6_begin_1 : en_Cx := ((en_KT, en_TY0, en_om0), en_FTX6, en_PTX6, [], en_LTX6, en_LLX6, en_TTX6, en_ACX6)
def m_X6_begin_1 : en_Mx := (k_X6_begin_1, 0, 3, (0, 0), tb_X6_begin, [])
set_option maxRecDepth 100000 in
theorem ck_X6_begin_1 : en_all x_X6_begin_1 m_X6_begin_1 u_X6_begin_1 10 = true := by decide +kernel
theorem ct_X6_begin_1 {l : Launch} (hl : l.stackTraces = false) {PP : Int32 → Int32 → Prop} (hPP : en_P0 PP) (Ω : Nat → en_H → va_W → Prop) : en_Ctr l vwCl en_TY0 PP en_om0 Ω en_KT yX6_begin (Cond.code yX6_begin cX6_begin 3 (some .int) :: en_cw) (en_rm 0 (1, 6)) 0 k_X6_begin_1 :=
  en_main (X := x_X6_begin_1) (M := m_X6_begin_1) hPP en_f32_ok en_f64_ok hl (by decide +kernel) ⟨en_FTX6_ok, en_PTX6_ok, en_an, en_LTX6_ok, en_LLX6_ok, en_TTX6_ok hl, ⟨cw256, cw147⟩, en_ACX6_ok⟩ de_X6_begin ck_X6_begin_1
def k_X6_begin_2 : en_K := (2, ([.inr (.inl 0), .inl (110, 114, 0, 0)], []), [], [], [], (1, 6), [0])
def u_X6_begin_2 : List en_U := []
def x_X6_begin_2 : en_Cx := ((en_KT, en_TY0, en_om0), en_FTX6, en_PTX6, [], en_LTX6, en_LLX6, en_TTX6, en_ACX6)
def m_X6_begin_2 : en_Mx := (k_X6_begin_2, 0, 3, (0, 0), tb_X6_begin, [])
set_option maxRecDepth 100000 in
theorem ck_X6_begin_2 : en_all x_X6_begin_2 m_X6_begin_2 u_X6_begin_2 10 = true := by decide +kernel
theorem ct_X6_begin_2 {l : Launch} (hl : l.stackTraces = false) {PP : Int32 → Int32 → Prop} (hPP : en_P0 PP) (Ω : Nat → en_H → va_W → Prop) : en_Ctr l vwCl en_TY0 PP en_om0 Ω en_KT yX6_begin (Cond.code yX6_begin cX6_begin 3 (some .int) :: en_cw) (en_rm 0 (1, 6)) 0 k_X6_begin_2 :=
  en_main (X := x_X6_begin_2) (M := m_X6_begin_2) hPP en_f32_ok en_f64_ok hl (by decide +kernel) ⟨en_FTX6_ok, en_PTX6_ok, en_an, en_LTX6_ok, en_LLX6_ok, en_TTX6_ok hl, ⟨cw256, cw147⟩, en_ACX6_ok⟩ de_X6_begin ck_X6_begin_2
def k_X6_begin_3 : en_K := (2, ([.inr (.inl 0), .inl (116, 65535, 0, 0)], []), [], [], [], (1, 6), [0])
def u_X6_begin_3 : List en_U := []
def x_X6_begin_3 : en_Cx := ((en_KT, en_TY0, en_om0), en_FTX6, en_PTX6, [], en_LTX6, en_LLX6, en_TTX6, en_ACX6)
def m_X6_begin_3 : en_Mx := (k_X6_begin_3, 0, 3, (0, 0), tb_X6_begin, [])
set_option maxRecDepth 100000 in
theorem ck_X6_begin_3 : en_all x_X6_begin_3 m_X6_begin_3 u_X6_begin_3 10 = true := by decide +kernel
theorem ct_X6_begin_3 {l : Launch} (hl : l.stackTraces = false) {PP : Int32 → Int32 → Prop} (hPP : en_P0 PP) (Ω : Nat → en_H → va_W → Prop) : en_Ctr l vwCl en_TY0 PP en_om0 Ω en_KT yX6_begin (Cond.code yX6_begin cX6_begin 3 (some .int) :: en_cw) (en_rm 0 (1, 6)) 0 k_X6_begin_3 :=
  en_main (X := x_X6_begin_3) (M := m_X6_begin_3) hPP en_f32_ok en_f64_ok hl (by decide +kernel) ⟨en_FTX6_ok, en_PTX6_ok, en_an, en_LTX6_ok, en_LLX6_ok, en_TTX6_ok hl, ⟨cw256, cw147⟩, en_ACX6_ok⟩ de_X6_begin ck_X6_begin_3
def k_X6_begin_4 : en_K := (2, ([.inr (.inl 0), .inl (115, 115, 0, 0), .inl (0, 0, 0, 0)], [(0, 0, 4, 2, 0, 0)]), [], [], [0], (1, 6), [2])
def u_X6_begin_4 : List en_U := []
def x_X6_begin_4 : en_Cx := ((en_KT, en_TY0, en_om0), en_FTX6, en_PTX6, [], en_LTX6, en_LLX6, en_TTX6, en_ACX6)
def m_X6_begin_4 : en_Mx := (k_X6_begin_4, 0, 3, (0, 0), tb_X6_begin, [])
set_option maxRecDepth 100000 in
theorem ck_X6_begin_4 : en_all x_X6_begin_4 m_X6_begin_4 u_X6_begin_4 10 = true := by decide +kernel
theorem ct_X6_begin_4 {l : Launch} (hl : l.stackTraces = false) {PP : Int32 → Int32 → Prop} (hPP : en_P0 PP) (Ω : Nat → en_H → va_W → Prop) : en_Ctr l vwCl en_TY0 PP en_om0 Ω en_KT yX6_begin (Cond.code yX6_begin cX6_begin 3 (some .int) :: en_cw) (en_rm 0 (1, 6)) 0 k_X6_begin_4 :=
  en_main (X := x_X6_begin_4) (M := m_X6_begin_4) hPP en_f32_ok en_f64_ok hl (by decide +kernel) ⟨en_FTX6_ok, en_PTX6_ok, en_an, en_LTX6_ok, en_LLX6_ok, en_TTX6_ok hl, ⟨cw256, cw147⟩, en_ACX6_ok⟩ de_X6_begin ck_X6_begin_4
def k_X6_begin_5 : en_K := (2, ([.inr (.inl 0), .inl (115, 115, 0, 0), .inl (0, 0, 0, 0)], [(0, 0, 5, 2, 0, 0)]), [], [], [0], (1, 6), [2])
def u_X6_begin_5 : List en_U := []
def x_X6_begin_5 : en_Cx := ((en_KT, en_TY0, en_om0), en_FTX6, en_PTX6, [], en_LTX6, en_LLX6, en_TTX6, en_ACX6)
def m_X6_begin_5 : en_Mx := (k_X6_begin_5, 0, 3, (0, 0), tb_X6_begin, [])
set_option maxRecDepth 100000 in
theorem ck_X6_begin_5 : en_all x_X6_begin_5 m_X6_begin_5 u_X6_begin_5 13 = true := by decide +kernel
theorem ct_X6_begin_5 {l : Launch} (hl : l.stackTraces = false) {PP : Int32 → Int32 → Prop} (hPP : en_P0 PP) (Ω : Nat → en_H → va_W → Prop) : en_Ctr l vwCl en_TY0 PP en_om0 Ω en_KT yX6_begin (Cond.code yX6_begin cX6_begin 3 (some .int) :: en_cw) (en_rm 0 (1, 6)) 0 k_X6_begin_5 :=
  en_main (X := x_X6_begin_5) (M := m_X6_begin_5) hPP en_f32_ok en_f64_ok hl (by decide +kernel) ⟨en_FTX6_ok, en_PTX6_ok, en_an, en_LTX6_ok, en_LLX6_ok, en_TTX6_ok hl, ⟨cw256, cw147⟩, en_ACX6_ok⟩ de_X6_begin ck_X6_begin_5
def k_X6_begin_6 : en_K := (2, ([.inr (.inl 0), .inl (115, 115, 0, 0), .inl (1, 1, 0, 0)], [(0, 0, 11, 2, 0, 0)]), [], [], [0], (1, 6), [2])
def u_X6_begin_6 : List en_U := []
def x_X6_begin_6 : en_Cx := ((en_KT, en_TY0, en_om0), en_FTX6, en_PTX6, [], en_LTX6, en_LLX6, en_TTX6, en_ACX6)
def m_X6_begin_6 : en_Mx := (k_X6_begin_6, 0, 3, (0, 0), tb_X6_begin, [])
set_option maxRecDepth 100000 in
theorem ck_X6_begin_6 : en_all x_X6_begin_6 m_X6_begin_6 u_X6_begin_6 16 = true := by decide +kernel
theorem ct_X6_begin_6 {l : Launch} (hl : l.stackTraces = false) {PP : Int32 → Int32 → Prop} (hPP : en_P0 PP) (Ω : Nat → en_H → va_W → Prop) : en_Ctr l vwCl en_TY0 PP en_om0 Ω en_KT yX6_begin (Cond.code yX6_begin cX6_begin 3 (some .int) :: en_cw) (en_rm 0 (1, 6)) 0 k_X6_begin_6 :=
  en_main (X := x_X6_begin_6) (M := m_X6_begin_6) hPP en_f32_ok en_f64_ok hl (by decide +kernel) ⟨en_FTX6_ok, en_PTX6_ok, en_an, en_LTX6_ok, en_LLX6_ok, en_TTX6_ok hl, ⟨cw256, cw147⟩, en_ACX6_ok⟩ de_X6_begin ck_X6_begin_6
def k_X6_begin_7 : en_K := (2, ([.inr (.inl 0), .inl (109, 109, 0, 0), .inl (0, 0, 0, 0)], [(0, 0, 4, 2, 0, 0)]), [], [], [0], (1, 6), [2])
def u_X6_begin_7 : List en_U := []
def x_X6_begin_7 : en_Cx := ((en_KT, en_TY0, en_om0), en_FTX6, en_PTX6, [], en_LTX6, en_LLX6, en_TTX6, en_ACX6)
def m_X6_begin_7 : en_Mx := (k_X6_begin_7, 0, 3, (0, 0), tb_X6_begin, [])
set_option maxRecDepth 100000 in
theorem ck_X6_begin_7 : en_all x_X6_begin_7 m_X6_begin_7 u_X6_begin_7 13 = true := by decide +kernel
theorem ct_X6_begin_7 {l : Launch} (hl : l.stackTraces = false) {PP : Int32 → Int32 → Prop} (hPP : en_P0 PP) (Ω : Nat → en_H → va_W → Prop) : en_Ctr l vwCl en_TY0 PP en_om0 Ω en_KT yX6_begin (Cond.code yX6_begin cX6_begin 3 (some .int) :: en_cw) (en_rm 0 (1, 6)) 0 k_X6_begin_7 :=
  en_main (X := x_X6_begin_7) (M := m_X6_begin_7) hPP en_f32_ok en_f64_ok hl (by decide +kernel) ⟨en_FTX6_ok, en_PTX6_ok, en_an, en_LTX6_ok, en_LLX6_ok, en_TTX6_ok hl, ⟨cw256, cw147⟩, en_ACX6_ok⟩ de_X6_begin ck_X6_begin_7
def k_X6_begin_8 : en_K := (2, ([.inr (.inl 0), .inl (109, 109, 0, 0), .inl (0, 0, 0, 0)], [(0, 0, 5, 2, 0, 0)]), [], [], [0], (1, 6), [2])
def u_X6_begin_8 : List en_U := []
def x_X6_begin_8 : en_Cx := ((en_KT, en_TY0, en_om0), en_FTX6, en_PTX6, [], en_LTX6, en_LLX6, en_TTX6, en_ACX6)
def m_X6_begin_8 : en_Mx := (k_X6_begin_8, 0, 3, (0, 0), tb_X6_begin, [])
set_option maxRecDepth 100000 in
theorem ck_X6_begin_8 : en_all x_X6_begin_8 m_X6_begin_8 u_X6_begin_8 16 = true := by decide +kernel
theorem ct_X6_begin_8 {l : Launch} (hl : l.stackTraces = false) {PP : Int32 → Int32 → Prop} (hPP : en_P0 PP) (Ω : Nat → en_H → va_W → Prop) : en_Ctr l vwCl en_TY0 PP en_om0 Ω en_KT yX6_begin (Cond.code yX6_begin cX6_begin 3 (some .int) :: en_cw) (en_rm 0 (1, 6)) 0 k_X6_begin_8 :=
  en_main (X := x_X6_begin_8) (M := m_X6_begin_8) hPP en_f32_ok en_f64_ok hl (by decide +kernel) ⟨en_FTX6_ok, en_PTX6_ok, en_an, en_LTX6_ok, en_LLX6_ok, en_TTX6_ok hl, ⟨cw256, cw147⟩, en_ACX6_ok⟩ de_X6_begin ck_X6_begin_8
def k_X6_begin_9 : en_K := (2, ([.inr (.inl 0), .inl (109, 109, 0, 0), .inl (1, 1, 0, 0)], [(0, 0, 11, 2, 0, 0)]), [], [], [0], (1, 6), [2])
def u_X6_begin_9 : List en_U := []
def x_X6_begin_9 : en_Cx := ((en_KT, en_TY0, en_om0), en_FTX6, en_PTX6, [], en_LTX6, en_LLX6, en_TTX6, en_ACX6)
def m_X6_begin_9 : en_Mx := (k_X6_begin_9, 0, 3, (0, 0), tb_X6_begin, [])
set_option maxRecDepth 100000 in
theorem ck_X6_begin_9 : en_all x_X6_begin_9 m_X6_begin_9 u_X6_begin_9 19 = true := by decide +kernel
theorem ct_X6_begin_9 {l : Launch} (hl : l.stackTraces = false) {PP : Int32 → Int32 → Prop} (hPP : en_P0 PP) (Ω : Nat → en_H → va_W → Prop) : en_Ctr l vwCl en_TY0 PP en_om0 Ω en_KT yX6_begin (Cond.code yX6_begin cX6_begin 3 (some .int) :: en_cw) (en_rm 0 (1, 6)) 0 k_X6_begin_9 :=
  en_main (X := x_X6_begin_9) (M := m_X6_begin_9) hPP en_f32_ok en_f64_ok hl (by decide +kernel) ⟨en_FTX6_ok, en_PTX6_ok, en_an, en_LTX6_ok, en_LLX6_ok, en_TTX6_ok hl, ⟨cw256, cw147⟩, en_ACX6_ok⟩ de_X6_begin ck_X6_begin_9
