def tb_X2_keep : en_Tb := [
  (26, [(0, .aload_n 0, 1), (1, .getfield 15, 3), (4, .bipush 20, 2), (6, .if_icmp .lt 37, 3), (9, .iconst 1, 1), (10, .istore_n 2, 1), (11, .iload_n 2, 1), (12, .bipush 20, 2), (14, .if_icmp .ge 23, 3), (17, .aload_n 0, 1), (18, .getfield 9, 3), (21, .iload_n 2, 1), (22, .iconst 1, 1), (23, .isub, 1), (24, .aload_n 0, 1), (25, .getfield 9, 3)]), 
  (60, [(28, .iload_n 2, 1), (29, .iaload, 1), (30, .iastore, 1), (31, .iinc 2 1, 3), (34, .goto (-23), 3), (37, .aload_n 0, 1), (38, .bipush 19, 2), (40, .putfield 15, 3), (43, .aload_n 0, 1), (44, .getfield 15, 3), (47, .ifCond .lt 32, 3), (50, .aload_n 0, 1), (51, .getfield 15, 3), (54, .bipush 20, 2), (56, .if_icmp .ge 23, 3), (59, .aload_n 0, 1)]), 
  (80, [(60, .getfield 9, 3), (63, .aload_n 0, 1), (64, .getfield 15, 3), (67, .iload_n 1, 1), (68, .iastore, 1), (69, .aload_n 0, 1), (70, .dup, 1), (71, .getfield 15, 3), (74, .iconst 1, 1), (75, .iadd, 1), (76, .putfield 15, 3), (79, .return_, 1)])]
set_option maxRecDepth 40000 in
theorem de_X2_keep : en_De tb_X2_keep cX2_keep := by
  unfold en_De
  decide +kernel
def k_X2_keep_0 : en_K := (2, ([.inr (.inl 11), .inl ((-2147483648), 2147483647, 0, 0)], []), [([.inr (.inl 11), .inl ((-2147483648), 2147483647, 0, 0)], [])], [(11, 1), (12, 0)], [11, 12], (0, 0), [])
def u_X2_keep_0 : List en_U := [
  (11, ([.inr (.inl 11), .inl ((-2147483648), 2147483647, 0, 0), .inl (1, 20, 0, 0), .inl (20, 20, 0, 0)], [(0, 0, 1, 3, 0, 0)]), [(0, 0), (1, 1), (2, 2)], (0, 0), [((-2), 2)], 44)]
def x_X2_keep_0 : en_Cx := ((en_KT, en_TY0, en_om0), en_FTX2, en_PTX2, [], en_LTX2, en_LLX2, en_TTX2, en_ACX2)
def m_X2_keep_0 : en_Mx := (k_X2_keep_0, 0, 3, (4, 0), tb_X2_keep, [])
set_option maxRecDepth 100000 in
theorem ck_X2_keep_0 : en_all x_X2_keep_0 m_X2_keep_0 u_X2_keep_0 29 = true := by decide +kernel
theorem ct_X2_keep_0 {l : Launch} (hl : l.stackTraces = false) {PP : Int32 → Int32 → Prop} (hPP : en_P0 PP) (Ω : Nat → en_H → va_W → Prop) : en_Ctr l vwCl en_TY0 PP en_om0 Ω en_KT yX2_keep (Cond.code yX2_keep cX2_keep 3 none :: en_cw) (en_rm 0 (0, 0)) 4 k_X2_keep_0 :=
  en_main (X := x_X2_keep_0) (M := m_X2_keep_0) hPP en_f32_ok en_f64_ok hl (by decide +kernel) ⟨en_FTX2_ok, en_PTX2_ok, en_an, en_LTX2_ok, en_LLX2_ok, en_TTX2_ok hl, ⟨cw256, cw147⟩, en_ACX2_ok⟩ de_X2_keep ck_X2_keep_0
def tb_X2_offFor : en_Tb := [
  (28, [(0, .iload_n 1, 1), (1, .aload_n 0, 1), (2, .getfield 27, 3), (5, .bipush 100, 2), (7, .isub, 1), (8, .if_icmp .gt 6, 3), (11, .bipush 20, 2), (13, .ireturn, 1), (14, .iload_n 1, 1), (15, .aload_n 0, 1), (16, .getfield 27, 3), (19, .bipush 70, 2), (21, .isub, 1), (22, .if_icmp .gt 8, 3), (25, .bipush 10, 2), (27, .goto 4, 3)]), 
  (32, [(30, .iconst 0, 1), (31, .ireturn, 1)])]
set_option maxRecDepth 40000 in
theorem de_X2_offFor : en_De tb_X2_offFor cX2_offFor := by
  unfold en_De
  decide +kernel
def k_X2_offFor_0 : en_K := (2, ([.inr (.inl 11), .inl ((-2147483648), 2147483647, 0, 0)], []), [([.inr (.inl 11), .inl ((-2147483647), 2147483647, 0, 0), .inl (0, 0, 0, 0)], []), ([.inr (.inl 11), .inl ((-2147483647), 2147483647, 0, 0), .inl (10, 10, 0, 0)], []), ([.inr (.inl 11), .inl ((-2147483648), 2147483647, 0, 0), .inl (20, 20, 0, 0)], [])], [], [11], (0, 0), [])
def u_X2_offFor_0 : List en_U := []
def x_X2_offFor_0 : en_Cx := ((en_KT, en_TY0, en_om0), en_FTX2, en_PTX2, [], en_LTX2, en_LLX2, en_TTX2, en_ACX2)
def m_X2_offFor_0 : en_Mx := (k_X2_offFor_0, 0, 2, (0, 0), tb_X2_offFor, [])
set_option maxRecDepth 100000 in
theorem ck_X2_offFor_0 : en_all x_X2_offFor_0 m_X2_offFor_0 u_X2_offFor_0 18 = true := by decide +kernel
theorem ct_X2_offFor_0 {l : Launch} (hl : l.stackTraces = false) {PP : Int32 → Int32 → Prop} (hPP : en_P0 PP) (Ω : Nat → en_H → va_W → Prop) : en_Ctr l vwCl en_TY0 PP en_om0 Ω en_KT yX2_offFor (Cond.code yX2_offFor cX2_offFor 2 (some .int) :: en_cw) (en_rm 0 (0, 0)) 0 k_X2_offFor_0 :=
  en_main (X := x_X2_offFor_0) (M := m_X2_offFor_0) hPP en_f32_ok en_f64_ok hl (by decide +kernel) ⟨en_FTX2_ok, en_PTX2_ok, en_an, en_LTX2_ok, en_LLX2_ok, en_TTX2_ok hl, ⟨cw256, cw147⟩, en_ACX2_ok⟩ de_X2_offFor ck_X2_offFor_0
def tb_X2_takeOff : en_Tb := [
  (25, [(0, .iconst 0, 1), (1, .istore_n 2, 1), (2, .iload_n 2, 1), (3, .aload_n 0, 1), (4, .getfield 15, 3), (7, .if_icmp .ge 25, 3), (10, .iload_n 2, 1), (11, .bipush 20, 2), (13, .if_icmp .ge 19, 3), (16, .aload_n 0, 1), (17, .getfield 9, 3), (20, .iload_n 2, 1), (21, .dup2, 1), (22, .iaload, 1), (23, .iload_n 1, 1), (24, .isub, 1)]), 
  (33, [(25, .iastore, 1), (26, .iinc 2 1, 3), (29, .goto (-27), 3), (32, .return_, 1)])]
set_option maxRecDepth 40000 in
theorem de_X2_takeOff : en_De tb_X2_takeOff cX2_takeOff := by
  unfold en_De
  decide +kernel
def k_X2_takeOff_0 : en_K := (2, ([.inr (.inl 11), .inl ((-2147483648), 2147483647, 0, 0)], []), [([.inr (.inl 11), .inl ((-2147483648), 2147483647, 0, 0)], [])], [(12, 0)], [11, 12], (0, 0), [])
def u_X2_takeOff_0 : List en_U := [
  (2, ([.inr (.inl 11), .inl ((-2147483648), 2147483647, 0, 0), .inl (0, 20, 0, 0)], []), [(0, 0), (1, 1), (2, 2)], (0, 0), [((-2), 2)], 44)]
def x_X2_takeOff_0 : en_Cx := ((en_KT, en_TY0, en_om0), en_FTX2, en_PTX2, [], en_LTX2, en_LLX2, en_TTX2, en_ACX2)
def m_X2_takeOff_0 : en_Mx := (k_X2_takeOff_0, 0, 3, (4, 0), tb_X2_takeOff, [])
set_option maxRecDepth 100000 in
theorem ck_X2_takeOff_0 : en_all x_X2_takeOff_0 m_X2_takeOff_0 u_X2_takeOff_0 20 = true := by decide +kernel
theorem ct_X2_takeOff_0 {l : Launch} (hl : l.stackTraces = false) {PP : Int32 → Int32 → Prop} (hPP : en_P0 PP) (Ω : Nat → en_H → va_W → Prop) : en_Ctr l vwCl en_TY0 PP en_om0 Ω en_KT yX2_takeOff (Cond.code yX2_takeOff cX2_takeOff 3 none :: en_cw) (en_rm 0 (0, 0)) 4 k_X2_takeOff_0 :=
  en_main (X := x_X2_takeOff_0) (M := m_X2_takeOff_0) hPP en_f32_ok en_f64_ok hl (by decide +kernel) ⟨en_FTX2_ok, en_PTX2_ok, en_an, en_LTX2_ok, en_LLX2_ok, en_TTX2_ok hl, ⟨cw256, cw147⟩, en_ACX2_ok⟩ de_X2_takeOff ck_X2_takeOff_0
def tb_X2_add : en_Tb := [
  (28, [(0, .aload_n 0, 1), (1, .getfield 15, 3), (4, .ifCond .ne 7, 3), (7, .iconst 1, 1), (8, .goto 4, 3), (11, .iconst 0, 1), (12, .istore_n 2, 1), (13, .aload_n 0, 1), (14, .iload_n 1, 1), (15, .invokevirtual 19, 3), (18, .iload_n 2, 1), (19, .ifCond .eq 20, 3), (22, .aload_n 0, 1), (23, .aload_n 0, 1), (24, .invokevirtual 23, 3), (27, .putfield 27, 3)]), 
  (58, [(30, .aload_n 0, 1), (31, .aload_n 0, 1), (32, .getfield 27, 3), (35, .putfield 30, 3), (38, .return_, 1), (39, .aload_n 0, 1), (40, .aload_n 0, 1), (41, .iload_n 1, 1), (42, .invokevirtual 33, 3), (45, .invokevirtual 37, 3), (48, .aload_n 0, 1), (49, .aload_n 0, 1), (50, .aload_n 0, 1), (51, .invokevirtual 23, 3), (54, .invokevirtual 40, 3), (57, .putfield 27, 3)]), 
  (76, [(60, .aload_n 0, 1), (61, .aload_n 0, 1), (62, .getfield 30, 3), (65, .aload_n 0, 1), (66, .getfield 27, 3), (69, .invokestatic 43, 3), (72, .putfield 30, 3), (75, .return_, 1)])]
set_option maxRecDepth 40000 in
theorem de_X2_add : en_De tb_X2_add cX2_add := by
  unfold en_De
  decide +kernel
def k_X2_add_0 : en_K := (2, ([.inr (.inl 11), .inl ((-2147483648), 2147483647, 0, 0)], []), [([.inr (.inl 11), .inl ((-2147483648), 2147483647, 0, 0)], [])], [(11, 1), (11, 2), (11, 3), (12, 0)], [11, 12], (0, 0), [])
def u_X2_add_0 : List en_U := []
def x_X2_add_0 : en_Cx := ((en_KT, en_TY0, en_om0), en_FTX2, en_PTX2, [(19, true, 8, 4, 0, k_X2_keep_0), (23, true, 8, 0, 2, k_X2_mean_0), (33, true, 8, 0, 0, k_X2_offFor_0), (37, true, 8, 4, 0, k_X2_takeOff_0), (40, true, 8, 0, 1, k_X2_bounded_0), (43, false, 0, 0, 0, k_J9_min_7cf53_0)], en_LTX2, en_LLX2, en_TTX2, en_ACX2)
def m_X2_add_0 : en_Mx := (k_X2_add_0, 3, 3, (4, 0), tb_X2_add, [])
set_option maxRecDepth 100000 in
theorem ck_X2_add_0 : en_all x_X2_add_0 m_X2_add_0 u_X2_add_0 32 = true := by decide +kernel
theorem ct_X2_add_0 {l : Launch} (hl : l.stackTraces = false) {PP : Int32 → Int32 → Prop} (hPP : en_P0 PP) (Ω : Nat → en_H → va_W → Prop) : en_Ctr l vwCl en_TY0 PP en_om0 Ω en_KT yX2_add (Cond.code yX2_add cX2_add 3 none :: en_cw) (en_rm 3 (0, 0)) 4 k_X2_add_0 :=
  en_main (X := x_X2_add_0) (M := m_X2_add_0) hPP en_f32_ok en_f64_ok hl (by decide +kernel) ⟨en_FTX2_ok, en_PTX2_ok, en_ac (⟨yX2_keep, RX2, cX2_keep, 3, none, by decide, ct_X2_keep_0 hl hPP Ω, fun _ => ⟨gc_RX2_19v, by decide, _, rfl, rfl⟩, fun h => Bool.noConfusion h⟩) (en_ac (⟨yX2_mean, RX2, cX2_mean, 4, (some .int), by decide, ct_X2_mean_0 hl hPP Ω, fun _ => ⟨gc_RX2_23v, by decide, _, rfl, rfl⟩, fun h => Bool.noConfusion h⟩) (en_ac (⟨yX2_offFor, RX2, cX2_offFor, 2, (some .int), by decide, ct_X2_offFor_0 hl hPP Ω, fun _ => ⟨gc_RX2_33v, by decide, _, rfl, rfl⟩, fun h => Bool.noConfusion h⟩) (en_ac (⟨yX2_takeOff, RX2, cX2_takeOff, 3, none, by decide, ct_X2_takeOff_0 hl hPP Ω, fun _ => ⟨gc_RX2_37v, by decide, _, rfl, rfl⟩, fun h => Bool.noConfusion h⟩) (en_ac (⟨yX2_bounded, RX2, cX2_bounded, 3, (some .int), by decide, ct_X2_bounded_0 hl hPP Ω, fun _ => ⟨gc_RX2_40v, by decide, _, rfl, rfl⟩, fun h => Bool.noConfusion h⟩) (en_ac (⟨yJ9_min_7cf53, RJ9, cJ9_min_7cf53, 2, (some .int), by decide, ct_J9_min_7cf53_0 hl hPP Ω, fun h => Bool.noConfusion h, fun _ => gc_RX2_43s⟩) en_an))))), en_LTX2_ok, en_LLX2_ok, en_TTX2_ok hl, ⟨cw256, cw147⟩, en_ACX2_ok⟩ de_X2_add ck_X2_add_0
def tb_X6_post : en_Tb := [
  (32, [(0, .aload_n 0, 1), (1, .iload_n 1, 1), (2, .invokevirtual 127, 3), (5, .iload_n 2, 1), (6, .bipush 100, 2), (8, .if_icmp .lt 23, 3), (11, .iload_n 2, 1), (12, .sipush 800, 3), (15, .if_icmp .gt 16, 3), (18, .iload_n 3, 1), (19, .bipush 55, 2), (21, .if_icmp .lt 10, 3), (24, .iload_n 3, 1), (25, .sipush 155, 3), (28, .if_icmp .le 13, 3), (31, .new 49, 3)]), 
  (66, [(34, .dup, 1), (35, .ldc 51, 2), (37, .invokespecial 53, 3), (40, .athrow, 1), (41, .aload_n 0, 1), (42, .getfield 18, 3), (45, .iload_n 1, 1), (46, .aaload, 1), (47, .getfield 155, 3), (50, .astore 4, 2), (52, .aload 4, 2), (54, .invokevirtual 508, 3), (57, .ifCond .eq 11, 3), (60, .aload 4, 2), (62, .getfield 516, 3), (65, .ifCond .eq 14, 3)]), 
  (99, [(68, .new 74, 3), (71, .dup, 1), (72, .ldc_w 519, 3), (75, .invokespecial 78, 3), (78, .athrow, 1), (79, .iconst 0, 1), (80, .istore 5, 2), (82, .iconst 0, 1), (83, .istore 6, 2), (85, .iload 6, 2), (87, .aload_n 0, 1), (88, .getfield 62, 3), (91, .if_icmp .ge 56, 3), (94, .aload_n 0, 1), (95, .getfield 11, 3), (98, .iload 6, 2)]), 
  (127, [(100, .aaload, 1), (101, .getfield 79, 3), (104, .iconst 2, 1), (105, .iadd, 1), (106, .aload_n 0, 1), (107, .aload_n 0, 1), (108, .getfield 18, 3), (111, .iload_n 1, 1), (112, .aaload, 1), (113, .getfield 137, 3), (116, .iload 6, 2), (118, .invokevirtual 140, 3), (121, .iadd, 1), (122, .istore 7, 2), (124, .iload 5, 2), (126, .aload 4, 2)]), 
  (158, [(128, .iload 6, 2), (130, .invokevirtual 469, 3), (133, .iload 7, 2), (135, .invokestatic 490, 3), (138, .iadd, 1), (139, .istore 5, 2), (141, .iinc 6 1, 3), (144, .goto (-59), 3), (147, .iload 5, 2), (149, .bipush 10, 2), (151, .imul, 1), (152, .iload_n 2, 1), (153, .isub, 1), (154, .bipush 113, 2), (156, .imul, 1), (157, .iload_n 3, 1)]), 
  (187, [(158, .invokestatic 521, 3), (161, .bipush 10, 2), (163, .aload_n 0, 1), (164, .getfield 513, 3), (167, .imul, 1), (168, .isub, 1), (169, .istore 6, 2), (171, .aload 4, 2), (173, .iconst 1, 1), (174, .putfield 516, 3), (177, .aload_n 0, 1), (178, .getfield 18, 3), (181, .iload_n 1, 1), (182, .aaload, 1), (183, .getfield 524, 3), (186, .iload 6, 2)]), 
  (194, [(188, .invokevirtual 528, 3), (191, .iload 6, 2), (193, .ireturn, 1)])]
set_option maxRecDepth 40000 in
theorem de_X6_post : en_De tb_X6_post cX6_post := by
  unfold en_De
  decide +kernel
def k_X6_post_0 : en_K := (4, ([.inr (.inl 0), .inl ((-2147483648), 2147483647, 0, 0), .inl ((-2147483648), 2147483647, 0, 0), .inl ((-2147483648), 2147483647, 0, 0)], []), [([.inr (.inl 0), .inl (0, 5, 0, 0), .inl (100, 800, 0, 0), .inl (55, 155, 0, 0), .inl ((-2147483648), 2147483647, 0, 0)], [])], [(9, 5), (11, 1), (11, 2), (11, 3), (12, 0)], [0, 1, 2, 5, 7, 9, 10, 11, 12], (2, 12), [0, 2, 3])
def u_X6_post_0 : List en_U := [
  (85, ([.inr (.inl 0), .inl (0, 5, 0, 0), .inl (100, 800, 0, 0), .inl (55, 155, 0, 0), .inl (0, 9, 0, 0), .inl ((-2147483648), 2147483647, 0, 0), .inr (.inl 9), .inl (0, 0, 0, 0)], [(0, 6, 5, 7, 0, 0)]), [(0, 0), (1, 1), (2, 2), (3, 3), (6, 4), (5, 5), (4, 6)], (1, 6), [((-2), 4)], 22)]
def x_X6_post_0 : en_Cx := ((en_KT, en_TY0, en_om0), en_FTX6, en_PTX6, [(127, true, 12, 4, 0, k_X6_needPlayer_0), (140, true, 12, 0, 0, k_X6_strokesGiven_0), (469, true, 7, 0, 0, k_X1_writtenOn_0), (490, false, 0, 0, 0, k_J9_min_7cf53_0), (508, true, 7, 0, 0, k_X1_isRanked_0), (521, false, 0, 0, 0, k_J9_floorDiv_7cf53_0), (528, true, 8, 4, 3, k_X2_add_0)], en_LTX6, en_LLX6, en_TTX6, en_ACX6)
def m_X6_post_0 : en_Mx := (k_X6_post_0, 4, 8, (0, 0), tb_X6_post, [])
set_option maxRecDepth 100000 in
theorem ck_X6_post_0 : en_all x_X6_post_0 m_X6_post_0 u_X6_post_0 34 = true := by decide +kernel
theorem ct_X6_post_0 {l : Launch} (hl : l.stackTraces = false) {PP : Int32 → Int32 → Prop} (hPP : en_P0 PP) (Ω : Nat → en_H → va_W → Prop) : en_Ctr l vwCl en_TY0 PP en_om0 Ω en_KT yX6_post (Cond.code yX6_post cX6_post 8 (some .int) :: en_cw) (en_rm 4 (2, 12)) 0 k_X6_post_0 :=
  en_main (X := x_X6_post_0) (M := m_X6_post_0) hPP en_f32_ok en_f64_ok hl (by decide +kernel) ⟨en_FTX6_ok, en_PTX6_ok, en_ac (⟨yX6_needPlayer, RX6, cX6_needPlayer, 2, none, by decide, ct_X6_needPlayer_0 hl hPP Ω, fun _ => ⟨gc_RX6_127v, by decide, _, rfl, rfl⟩, fun h => Bool.noConfusion h⟩) (en_ac (⟨yX6_strokesGiven, RX6, cX6_strokesGiven, 5, (some .int), by decide, ct_X6_strokesGiven_0 hl hPP Ω, fun _ => ⟨gc_RX6_140v, by decide, _, rfl, rfl⟩, fun h => Bool.noConfusion h⟩) (en_ac (⟨yX1_writtenOn, RX1, cX1_writtenOn, 2, (some .int), by decide, ct_X1_writtenOn_0 hl hPP Ω, fun _ => ⟨gc_RX6_469v, by decide, _, rfl, rfl⟩, fun h => Bool.noConfusion h⟩) (en_ac (⟨yJ9_min_7cf53, RJ9, cJ9_min_7cf53, 2, (some .int), by decide, ct_J9_min_7cf53_0 hl hPP Ω, fun h => Bool.noConfusion h, fun _ => gc_RX6_490s⟩) (en_ac (⟨yX1_isRanked, RX1, cX1_isRanked, 1, (some .boolean), by decide, ct_X1_isRanked_0 hl hPP Ω, fun _ => ⟨gc_RX6_508v, by decide, _, rfl, rfl⟩, fun h => Bool.noConfusion h⟩) (en_ac (⟨yJ9_floorDiv_7cf53, RJ9, cJ9_floorDiv_7cf53, 3, (some .int), by decide, ct_J9_floorDiv_7cf53_0 hl hPP Ω, fun h => Bool.noConfusion h, fun _ => gc_RX6_521s⟩) (en_ac (⟨yX2_add, RX2, cX2_add, 3, none, by decide, ct_X2_add_0 hl hPP Ω, fun _ => ⟨gc_RX6_528v, by decide, _, rfl, rfl⟩, fun h => Bool.noConfusion h⟩) en_an)))))), en_LTX6_ok, en_LLX6_ok, en_TTX6_ok hl, ⟨cw256, cw147⟩, en_ACX6_ok⟩ de_X6_post ck_X6_post_0
def tb_X6_needPlay : en_Tb := [
  (26, [(0, .aload_n 0, 1), (1, .getfield 132, 3), (4, .ifCond .eq 10, 3), (7, .aload_n 0, 1), (8, .getfield 149, 3), (11, .ifCond .eq 14, 3), (14, .new 65, 3), (17, .dup, 1), (18, .ldc_w 576, 3), (21, .invokespecial 69, 3), (24, .athrow, 1), (25, .return_, 1)])]
set_option maxRecDepth 40000 in
theorem de_X6_needPlay : en_De tb_X6_needPlay cX6_needPlay := by
  unfold en_De
  decide +kernel
def k_X6_needPlay_0 : en_K := (1, ([.inr (.inl 0)], []), [([.inr (.inl 0)], [])], [], [0], (1, 6), [1])
def u_X6_needPlay_0 : List en_U := []
def x_X6_needPlay_0 : en_Cx := ((en_KT, en_TY0, en_om0), en_FTX6, en_PTX6, [], en_LTX6, en_LLX6, en_TTX6, en_ACX6)
def m_X6_needPlay_0 : en_Mx := (k_X6_needPlay_0, 0, 1, (4, 0), tb_X6_needPlay, [])
set_option maxRecDepth 100000 in
theorem ck_X6_needPlay_0 : en_all x_X6_needPlay_0 m_X6_needPlay_0 u_X6_needPlay_0 10 = true := by decide +kernel
theorem ct_X6_needPlay_0 {l : Launch} (hl : l.stackTraces = false) {PP : Int32 → Int32 → Prop} (hPP : en_P0 PP) (Ω : Nat → en_H → va_W → Prop) : en_Ctr l vwCl en_TY0 PP en_om0 Ω en_KT yX6_needPlay (Cond.code yX6_needPlay cX6_needPlay 1 none :: en_cw) (en_rm 0 (1, 6)) 4 k_X6_needPlay_0 :=
  en_main (X := x_X6_needPlay_0) (M := m_X6_needPlay_0) hPP en_f32_ok en_f64_ok hl (by decide +kernel) ⟨en_FTX6_ok, en_PTX6_ok, en_an, en_LTX6_ok, en_LLX6_ok, en_TTX6_ok hl, ⟨cw256, cw147⟩, en_ACX6_ok⟩ de_X6_needPlay ck_X6_needPlay_0
def tb_X6_draw : en_Tb := [
  (30, [(0, .aload_n 0, 1), (1, .aload_n 0, 1), (2, .getfield 34, 3), (5, .ldc_w 600, 3), (8, .imul, 1), (9, .sipush 12345, 3), (12, .iadd, 1), (13, .putfield 34, 3), (16, .iload_n 1, 1), (17, .iconst 1, 1), (18, .if_icmp .ge 7, 3), (21, .iconst 0, 1), (22, .goto 12, 3), (25, .aload_n 0, 1), (26, .getfield 34, 3), (29, .bipush 16, 2)]), 
  (35, [(31, .iushr, 1), (32, .iload_n 1, 1), (33, .irem, 1), (34, .ireturn, 1)])]
set_option maxRecDepth 40000 in
theorem de_X6_draw : en_De tb_X6_draw cX6_draw := by
  unfold en_De
  decide +kernel
def k_X6_draw_0 : en_K := (2, ([.inr (.inl 0), .inl ((-2147483648), 2147483647, 0, 0)], []), [([.inr (.inl 0), .inl ((-2147483648), 2147483647, 0, 0), .inl (0, 2147483646, 0, 0)], [])], [(0, 6)], [0], (0, 0), [])
def u_X6_draw_0 : List en_U := []
def x_X6_draw_0 : en_Cx := ((en_KT, en_TY0, en_om0), en_FTX6, en_PTX6, [], en_LTX6, en_LLX6, en_TTX6, en_ACX6)
def m_X6_draw_0 : en_Mx := (k_X6_draw_0, 0, 2, (0, 0), tb_X6_draw, [])
set_option maxRecDepth 100000 in
theorem ck_X6_draw_0 : en_all x_X6_draw_0 m_X6_draw_0 u_X6_draw_0 21 = true := by decide +kernel
theorem ct_X6_draw_0 {l : Launch} (hl : l.stackTraces = false) {PP : Int32 → Int32 → Prop} (hPP : en_P0 PP) (Ω : Nat → en_H → va_W → Prop) : en_Ctr l vwCl en_TY0 PP en_om0 Ω en_KT yX6_draw (Cond.code yX6_draw cX6_draw 2 (some .int) :: en_cw) (en_rm 0 (0, 0)) 0 k_X6_draw_0 :=
  en_main (X := x_X6_draw_0) (M := m_X6_draw_0) hPP en_f32_ok en_f64_ok hl (by decide +kernel) ⟨en_FTX6_ok, en_PTX6_ok, en_an, en_LTX6_ok, en_LLX6_ok, en_TTX6_ok hl, ⟨cw256, cw147⟩, en_ACX6_ok⟩ de_X6_draw ck_X6_draw_0
def tb_X6_drawLanding : en_Tb := [
  (26, [(0, .aload_n 0, 1), (1, .getfield 11, 3), (4, .aload_n 0, 1), (5, .getfield 170, 3), (8, .aaload, 1), (9, .iload_n 1, 1), (10, .iload_n 2, 1), (11, .iload_n 3, 1), (12, .invokevirtual 244, 3), (15, .istore 4, 2), (17, .iload 4, 2), (19, .ifCond .ne 5, 3), (22, .iload_n 3, 1), (23, .ireturn, 1), (24, .iload_n 3, 1), (25, .bipush 30, 2)]), 
  (49, [(27, .irem, 1), (28, .aload_n 0, 1), (29, .iconst 2, 1), (30, .iload 4, 2), (32, .imul, 1), (33, .iconst 1, 1), (34, .iadd, 1), (35, .invokevirtual 270, 3), (38, .iadd, 1), (39, .iload 4, 2), (41, .isub, 1), (42, .istore 5, 2), (44, .iload_n 3, 1), (45, .bipush 30, 2), (47, .idiv, 1), (48, .aload_n 0, 1)]), 
  (72, [(49, .iconst 2, 1), (50, .iload 4, 2), (52, .imul, 1), (53, .iconst 1, 1), (54, .iadd, 1), (55, .invokevirtual 270, 3), (58, .iadd, 1), (59, .iload 4, 2), (61, .isub, 1), (62, .istore 6, 2), (64, .iload 5, 2), (66, .iload 6, 2), (68, .invokestatic 247, 3), (71, .ireturn, 1)])]
set_option maxRecDepth 40000 in
theorem de_X6_drawLanding : en_De tb_X6_drawLanding cX6_drawLanding := by
  unfold en_De
  decide +kernel
def k_X6_drawLanding_0 : en_K := (4, ([.inr (.inl 0), .inl ((-2147483648), 2147483647, 0, 0), .inl (0, 1, 0, 0), .inl ((-2147483648), 2147483647, 0, 0)], []), [([.inr (.inl 0), .inl ((-2147483648), 2147483647, 0, 0), .inl (0, 1, 0, 0), .inl ((-2147483648), 2147483647, 0, 0), .inl ((-2147483648), 2147483647, 0, 0)], []), ([.inr (.inl 0), .inl ((-2147483648), 2147483647, 0, 0), .inl (0, 1, 0, 0), .inl ((-2147483648), 2147483647, 0, 0), .inl ((-1), (-1), 0, 0)], [])], [(0, 6)], [0, 1, 5, 6], (0, 0), [])
def u_X6_drawLanding_0 : List en_U := []
def x_X6_drawLanding_0 : en_Cx := ((en_KT, en_TY0, en_om0), en_FTX6, en_PTX6, [(244, true, 9, 0, 1, k_X3_spreadFrom_0), (247, false, 0, 0, 1, k_X6_cellOrNone_0), (270, true, 12, 0, 0, k_X6_draw_0)], en_LTX6, en_LLX6, en_TTX6, en_ACX6)
def m_X6_drawLanding_0 : en_Mx := (k_X6_drawLanding_0, 2, 7, (0, 0), tb_X6_drawLanding, [])
set_option maxRecDepth 100000 in
theorem ck_X6_drawLanding_0 : en_all x_X6_drawLanding_0 m_X6_drawLanding_0 u_X6_drawLanding_0 47 = true := by decide +kernel
theorem ct_X6_drawLanding_0 {l : Launch} (hl : l.stackTraces = false) {PP : Int32 → Int32 → Prop} (hPP : en_P0 PP) (Ω : Nat → en_H → va_W → Prop) : en_Ctr l vwCl en_TY0 PP en_om0 Ω en_KT yX6_drawLanding (Cond.code yX6_drawLanding cX6_drawLanding 7 (some .int) :: en_cw) (en_rm 2 (0, 0)) 0 k_X6_drawLanding_0 :=
  en_main (X := x_X6_drawLanding_0) (M := m_X6_drawLanding_0) hPP en_f32_ok en_f64_ok hl (by decide +kernel) ⟨en_FTX6_ok, en_PTX6_ok, en_ac (⟨yX3_spreadFrom, RX3, cX3_spreadFrom, 4, (some .int), by decide, ct_X3_spreadFrom_0 hl hPP Ω, fun _ => ⟨gc_RX6_244v, by decide, _, rfl, rfl⟩, fun h => Bool.noConfusion h⟩) (en_ac (⟨yX6_cellOrNone, RX6, cX6_cellOrNone, 2, (some .int), by decide, ct_X6_cellOrNone_0 hl hPP Ω, fun h => Bool.noConfusion h, fun _ => gc_RX6_247s⟩) (en_ac (⟨yX6_draw, RX6, cX6_draw, 2, (some .int), by decide, ct_X6_draw_0 hl hPP Ω, fun _ => ⟨gc_RX6_270v, by decide, _, rfl, rfl⟩, fun h => Bool.noConfusion h⟩) en_an)), en_LTX6_ok, en_LLX6_ok, en_TTX6_ok hl, ⟨cw256, cw147⟩, en_ACX6_ok⟩ de_X6_drawLanding ck_X6_drawLanding_0
def tb_X6_stateAfter : en_Tb := [
  (53, [(0, .iload_n 0, 1), (1, .lookupswitch 49 #[(99, 43), (100, 46), (102, 46), (111, 46)], 43), (44, .bipush 104, 2), (46, .ireturn, 1), (47, .bipush 115, 2), (49, .ireturn, 1), (50, .bipush 108, 2), (52, .ireturn, 1)])]
set_option maxRecDepth 40000 in
theorem de_X6_stateAfter : en_De tb_X6_stateAfter cX6_stateAfter := by
  unfold en_De
  decide +kernel
def k_X6_stateAfter_0 : en_K := (1, ([.inl (0, 65535, 0, 0)], []), [([.inl (99, 99, 0, 0), .inl (104, 104, 0, 0)], []), ([.inl (0, 65535, 0, 0), .inl (108, 108, 0, 0)], []), ([.inl (100, 111, 0, 0), .inl (115, 115, 0, 0)], [])], [], [], (0, 0), [])
def u_X6_stateAfter_0 : List en_U := []
def x_X6_stateAfter_0 : en_Cx := ((en_KT, en_TY0, en_om0), en_FTX6, en_PTX6, [], en_LTX6, en_LLX6, en_TTX6, en_ACX6)
def m_X6_stateAfter_0 : en_Mx := (k_X6_stateAfter_0, 0, 1, (0, 1), tb_X6_stateAfter, [])
set_option maxRecDepth 100000 in
theorem ck_X6_stateAfter_0 : en_all x_X6_stateAfter_0 m_X6_stateAfter_0 u_X6_stateAfter_0 7 = true := by decide +kernel
theorem ct_X6_stateAfter_0 {l : Launch} (hl : l.stackTraces = false) {PP : Int32 → Int32 → Prop} (hPP : en_P0 PP) (Ω : Nat → en_H → va_W → Prop) : en_Ctr l vwCl en_TY0 PP en_om0 Ω en_KT yX6_stateAfter (Cond.code yX6_stateAfter cX6_stateAfter 1 (some .char) :: en_cw) (en_rm 0 (0, 0)) 0 k_X6_stateAfter_0 :=
  en_main (X := x_X6_stateAfter_0) (M := m_X6_stateAfter_0) hPP en_f32_ok en_f64_ok hl (by decide +kernel) ⟨en_FTX6_ok, en_PTX6_ok, en_an, en_LTX6_ok, en_LLX6_ok, en_TTX6_ok hl, ⟨cw256, cw147⟩, en_ACX6_ok⟩ de_X6_stateAfter ck_X6_stateAfter_0
def tb_X6_provisional : en_Tb := [
  (27, [(0, .aload_n 0, 1), (1, .iload_n 1, 1), (2, .invokevirtual 127, 3), (5, .iload_n 2, 1), (6, .iload_n 3, 1), (7, .invokestatic 114, 3), (10, .aload_n 0, 1), (11, .invokevirtual 182, 3), (14, .aload_n 0, 1), (15, .getfield 18, 3), (18, .iload_n 1, 1), (19, .aaload, 1), (20, .getfield 185, 3), (23, .astore 4, 2), (25, .aload_n 0, 1), (26, .getfield 11, 3)]), 
  (61, [(29, .aload_n 0, 1), (30, .getfield 170, 3), (33, .aaload, 1), (34, .astore 5, 2), (36, .iload_n 2, 1), (37, .iload_n 3, 1), (38, .invokestatic 85, 3), (41, .istore 6, 2), (43, .aload 4, 2), (45, .getfield 205, 3), (48, .bipush 115, 2), (50, .if_icmp .ne 33, 3), (53, .aload 4, 2), (55, .getfield 250, 3), (58, .bipush 45, 2), (60, .if_icmp .ne 23, 3)]), 
  (99, [(63, .aload 5, 2), (65, .aload 4, 2), (67, .getfield 253, 3), (70, .aload 4, 2), (72, .getfield 256, 3), (75, .iload 6, 2), (77, .invokevirtual 259, 3), (80, .ifCond .ne 14, 3), (83, .new 74, 3), (86, .dup, 1), (87, .ldc_w 263, 3), (90, .invokespecial 78, 3), (93, .athrow, 1), (94, .aload_n 0, 1), (95, .getfield 30, 3), (98, .iconst (-1), 1)]), 
  (137, [(99, .putfield 193, 3), (102, .aload 4, 2), (104, .aload_n 0, 1), (105, .aload 4, 2), (107, .getfield 253, 3), (110, .aload 4, 2), (112, .getfield 256, 3), (115, .iload 6, 2), (117, .invokevirtual 227, 3), (120, .putfield 265, 3), (123, .aload 5, 2), (125, .aload 4, 2), (127, .getfield 265, 3), (130, .invokevirtual 231, 3), (133, .invokestatic 234, 3), (136, .istore 7, 2)]), 
  (163, [(138, .aload 4, 2), (140, .iload 7, 2), (142, .bipush 115, 2), (144, .if_icmp .ne 8, 3), (147, .bipush 103, 2), (149, .goto 5, 3), (152, .iload 7, 2), (154, .putfield 250, 3), (157, .aload 4, 2), (159, .getfield 250, 3), (162, .ireturn, 1)])]
set_option maxRecDepth 40000 in
theorem de_X6_provisional : en_De tb_X6_provisional cX6_provisional := by
  unfold en_De
  decide +kernel
def k_X6_provisional_0 : en_K := (4, ([.inr (.inl 0), .inl ((-2147483648), 2147483647, 0, 0), .inl ((-2147483648), 2147483647, 0, 0), .inl ((-2147483648), 2147483647, 0, 0)], []), [([.inr (.inl 0), .inl (0, 5, 0, 0), .inl (0, 29, 0, 0), .inl (0, 19, 0, 0), .inl (103, 103, 0, 0)], []), ([.inr (.inl 0), .inl (0, 5, 0, 0), .inl (0, 29, 0, 0), .inl (0, 19, 0, 0), .inl (104, 104, 0, 0)], []), ([.inr (.inl 0), .inl (0, 5, 0, 0), .inl (0, 29, 0, 0), .inl (0, 19, 0, 0), .inl (108, 108, 0, 0)], [])], [(0, 6), (4, 1), (8, 7), (8, 8)], [0, 1, 2, 4, 5, 6, 7, 8], (4, 24), [1, 2, 3])
def u_X6_provisional_0 : List en_U := []
def x_X6_provisional_0 : en_Cx := ((en_KT, en_TY0, en_om0), en_FTX6, en_PTX6, [(85, false, 0, 0, 0, k_X6_cellAt_0), (114, false, 0, 4, 1, k_X6_needCell_0), (127, true, 12, 4, 0, k_X6_needPlayer_0), (182, true, 12, 4, 0, k_X6_needPlay_0), (227, true, 12, 0, 2, k_X6_drawLanding_0), (231, true, 9, 0, 1, k_X3_outcomeAt_0), (234, false, 0, 0, 0, k_X6_stateAfter_0), (259, true, 9, 0, 2, k_X3_isAim_0)], en_LTX6, en_LLX6, en_TTX6, en_ACX6)
def m_X6_provisional_0 : en_Mx := (k_X6_provisional_0, 3, 8, (0, 1), tb_X6_provisional, [])
set_option maxRecDepth 100000 in
theorem ck_X6_provisional_0 : en_all x_X6_provisional_0 m_X6_provisional_0 u_X6_provisional_0 72 = true := by decide +kernel
theorem ct_X6_provisional_0 {l : Launch} (hl : l.stackTraces = false) {PP : Int32 → Int32 → Prop} (hPP : en_P0 PP) (Ω : Nat → en_H → va_W → Prop) : en_Ctr l vwCl en_TY0 PP en_om0 Ω en_KT yX6_provisional (Cond.code yX6_provisional cX6_provisional 8 (some .char) :: en_cw) (en_rm 3 (4, 24)) 0 k_X6_provisional_0 :=
  en_main (X := x_X6_provisional_0) (M := m_X6_provisional_0) hPP en_f32_ok en_f64_ok hl (by decide +kernel) ⟨en_FTX6_ok, en_PTX6_ok, en_ac (⟨yX6_cellAt, RX6, cX6_cellAt, 2, (some .int), by decide, ct_X6_cellAt_0 hl hPP Ω, fun h => Bool.noConfusion h, fun _ => gc_RX6_85s⟩) (en_ac (⟨yX6_needCell, RX6, cX6_needCell, 2, none, by decide, ct_X6_needCell_0 hl hPP Ω, fun h => Bool.noConfusion h, fun _ => gc_RX6_114s⟩) (en_ac (⟨yX6_needPlayer, RX6, cX6_needPlayer, 2, none, by decide, ct_X6_needPlayer_0 hl hPP Ω, fun _ => ⟨gc_RX6_127v, by decide, _, rfl, rfl⟩, fun h => Bool.noConfusion h⟩) (en_ac (⟨yX6_needPlay, RX6, cX6_needPlay, 1, none, by decide, ct_X6_needPlay_0 hl hPP Ω, fun _ => ⟨gc_RX6_182v, by decide, _, rfl, rfl⟩, fun h => Bool.noConfusion h⟩) (en_ac (⟨yX6_drawLanding, RX6, cX6_drawLanding, 7, (some .int), by decide, ct_X6_drawLanding_0 hl hPP Ω, fun _ => ⟨gc_RX6_227v, by decide, _, rfl, rfl⟩, fun h => Bool.noConfusion h⟩) (en_ac (⟨yX3_outcomeAt, RX3, cX3_outcomeAt, 2, (some .char), by decide, ct_X3_outcomeAt_0 hl hPP Ω, fun _ => ⟨gc_RX6_231v, by decide, _, rfl, rfl⟩, fun h => Bool.noConfusion h⟩) (en_ac (⟨yX6_stateAfter, RX6, cX6_stateAfter, 1, (some .char), by decide, ct_X6_stateAfter_0 hl hPP Ω, fun h => Bool.noConfusion h, fun _ => gc_RX6_234s⟩) (en_ac (⟨yX3_isAim, RX3, cX3_isAim, 5, (some .boolean), by decide, ct_X3_isAim_0 hl hPP Ω, fun _ => ⟨gc_RX6_259v, by decide, _, rfl, rfl⟩, fun h => Bool.noConfusion h⟩) en_an))))))), en_LTX6_ok, en_LLX6_ok, en_TTX6_ok hl, ⟨cw256, cw147⟩, en_ACX6_ok⟩ de_X6_provisional ck_X6_provisional_0
def tb_X6_rank : en_Tb := [
  (16, [(0, .aload_n 0, 1), (1, .iload_n 1, 1), (2, .invokevirtual 127, 3), (5, .aload_n 0, 1), (6, .iload_n 1, 1), (7, .invokevirtual 496, 3), (10, .aload_n 0, 1), (11, .iload_n 1, 1), (12, .invokevirtual 499, 3), (15, .ireturn, 1)])]
set_option maxRecDepth 40000 in
theorem de_X6_rank : en_De tb_X6_rank cX6_rank := by
  unfold en_De
  decide +kernel
def k_X6_rank_0 : en_K := (2, ([.inr (.inl 0), .inl ((-2147483648), 2147483647, 0, 0)], []), [([.inr (.inl 0), .inl (0, 5, 0, 0), .inl ((-2147483648), 2147483647, 0, 0)], [])], [], [0, 2, 7, 9, 10], (2, 12), [3, 4])
def u_X6_rank_0 : List en_U := []
def x_X6_rank_0 : en_Cx := ((en_KT, en_TY0, en_om0), en_FTX6, en_PTX6, [(127, true, 12, 4, 0, k_X6_needPlayer_0), (496, true, 12, 4, 1, k_X6_needRanked_0), (499, true, 12, 0, 3, k_X6_rankOf_0)], en_LTX6, en_LLX6, en_TTX6, en_ACX6)
def m_X6_rank_0 : en_Mx := (k_X6_rank_0, 4, 2, (0, 0), tb_X6_rank, [])
set_option maxRecDepth 100000 in
theorem ck_X6_rank_0 : en_all x_X6_rank_0 m_X6_rank_0 u_X6_rank_0 13 = true := by decide +kernel
theorem ct_X6_rank_0 {l : Launch} (hl : l.stackTraces = false) {PP : Int32 → Int32 → Prop} (hPP : en_P0 PP) (Ω : Nat → en_H → va_W → Prop) : en_Ctr l vwCl en_TY0 PP en_om0 Ω en_KT yX6_rank (Cond.code yX6_rank cX6_rank 2 (some .int) :: en_cw) (en_rm 4 (2, 12)) 0 k_X6_rank_0 :=
  en_main (X := x_X6_rank_0) (M := m_X6_rank_0) hPP en_f32_ok en_f64_ok hl (by decide +kernel) ⟨en_FTX6_ok, en_PTX6_ok, en_ac (⟨yX6_needPlayer, RX6, cX6_needPlayer, 2, none, by decide, ct_X6_needPlayer_0 hl hPP Ω, fun _ => ⟨gc_RX6_127v, by decide, _, rfl, rfl⟩, fun h => Bool.noConfusion h⟩) (en_ac (⟨yX6_needRanked, RX6, cX6_needRanked, 2, none, by decide, ct_X6_needRanked_0 hl hPP Ω, fun _ => ⟨gc_RX6_496v, by decide, _, rfl, rfl⟩, fun h => Bool.noConfusion h⟩) (en_ac (⟨yX6_rankOf, RX6, cX6_rankOf, 4, (some .int), by decide, ct_X6_rankOf_0 hl hPP Ω, fun _ => ⟨gc_RX6_499v, by decide, _, rfl, rfl⟩, fun h => Bool.noConfusion h⟩) en_an)), en_LTX6_ok, en_LLX6_ok, en_TTX6_ok hl, ⟨cw256, cw147⟩, en_ACX6_ok⟩ de_X6_rank ck_X6_rank_0
def tb_X6_score : en_Tb := [
  (26, [(0, .aload_n 0, 1), (1, .iload_n 1, 1), (2, .invokevirtual 127, 3), (5, .aload_n 0, 1), (6, .iload_n 2, 1), (7, .invokevirtual 95, 3), (10, .aload_n 0, 1), (11, .getfield 18, 3), (14, .iload_n 1, 1), (15, .aaload, 1), (16, .getfield 155, 3), (19, .iload_n 2, 1), (20, .invokevirtual 422, 3), (23, .istore_n 3, 1), (24, .iload_n 3, 1), (25, .ifCond .ne 14, 3)]), 
  (41, [(28, .new 177, 3), (31, .dup, 1), (32, .ldc_w 425, 3), (35, .invokespecial 181, 3), (38, .athrow, 1), (39, .iload_n 3, 1), (40, .ireturn, 1)])]
set_option maxRecDepth 40000 in
theorem de_X6_score : en_De tb_X6_score cX6_score := by
  unfold en_De
  decide +kernel
def k_X6_score_0 : en_K := (3, ([.inr (.inl 0), .inl ((-2147483648), 2147483647, 0, 0), .inl ((-2147483648), 2147483647, 0, 0)], []), [([.inr (.inl 0), .inl (0, 5, 0, 0), .inl (0, 8, 0, 0), .inl ((-2147483648), 2147483647, 0, 0)], [(6, 3, 0, 0, 0, 0)])], [], [0, 2, 7, 9, 10], (3, 18), [3, 4])
def u_X6_score_0 : List en_U := []
def x_X6_score_0 : en_Cx := ((en_KT, en_TY0, en_om0), en_FTX6, en_PTX6, [(95, true, 12, 4, 0, k_X6_needHole_0), (127, true, 12, 4, 0, k_X6_needPlayer_0), (422, true, 7, 0, 0, k_X1_scoreOn_0)], en_LTX6, en_LLX6, en_TTX6, en_ACX6)
def m_X6_score_0 : en_Mx := (k_X6_score_0, 1, 4, (0, 0), tb_X6_score, [])
set_option maxRecDepth 100000 in
theorem ck_X6_score_0 : en_all x_X6_score_0 m_X6_score_0 u_X6_score_0 21 = true := by decide +kernel
theorem ct_X6_score_0 {l : Launch} (hl : l.stackTraces = false) {PP : Int32 → Int32 → Prop} (hPP : en_P0 PP) (Ω : Nat → en_H → va_W → Prop) : en_Ctr l vwCl en_TY0 PP en_om0 Ω en_KT yX6_score (Cond.code yX6_score cX6_score 4 (some .int) :: en_cw) (en_rm 1 (3, 18)) 0 k_X6_score_0 :=
  en_main (X := x_X6_score_0) (M := m_X6_score_0) hPP en_f32_ok en_f64_ok hl (by decide +kernel) ⟨en_FTX6_ok, en_PTX6_ok, en_ac (⟨yX6_needHole, RX6, cX6_needHole, 2, none, by decide, ct_X6_needHole_0 hl hPP Ω, fun _ => ⟨gc_RX6_95v, by decide, _, rfl, rfl⟩, fun h => Bool.noConfusion h⟩) (en_ac (⟨yX6_needPlayer, RX6, cX6_needPlayer, 2, none, by decide, ct_X6_needPlayer_0 hl hPP Ω, fun _ => ⟨gc_RX6_127v, by decide, _, rfl, rfl⟩, fun h => Bool.noConfusion h⟩) (en_ac (⟨yX1_scoreOn, RX1, cX1_scoreOn, 2, (some .int), by decide, ct_X1_scoreOn_0 hl hPP Ω, fun _ => ⟨gc_RX6_422v, by decide, _, rfl, rfl⟩, fun h => Bool.noConfusion h⟩) en_an)), en_LTX6_ok, en_LLX6_ok, en_TTX6_ok hl, ⟨cw256, cw147⟩, en_ACX6_ok⟩ de_X6_score ck_X6_score_0
