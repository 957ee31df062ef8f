def tb_X6_checksum : en_Tb := [
  (26, [(0, .ldc2_w 550, 3), (3, .lstore_n 1, 1), (4, .iconst 0, 1), (5, .istore_n 3, 1), (6, .iload_n 3, 1), (7, .aload_n 0, 1), (8, .getfield 62, 3), (11, .if_icmp .ge 49, 3), (14, .aload_n 0, 1), (15, .getfield 11, 3), (18, .iload_n 3, 1), (19, .aaload, 1), (20, .astore 4, 2), (22, .iconst 0, 1), (23, .istore 5, 2), (25, .iload 5, 2)]), 
  (61, [(27, .sipush 600, 3), (30, .if_icmp .ge 24, 3), (33, .ldc2_w 552, 3), (36, .lload_n 1, 1), (37, .lmul, 1), (38, .aload 4, 2), (40, .iload 5, 2), (42, .invokevirtual 118, 3), (45, .i2l, 1), (46, .ladd, 1), (47, .lstore_n 1, 1), (48, .iinc 5 1, 3), (51, .goto (-26), 3), (54, .iinc 3 1, 3), (57, .goto (-51), 3), (60, .lload_n 1, 1)]), 
  (62, [(61, .lreturn, 1)])]
set_option maxRecDepth 40000 in
theorem de_X6_checksum : en_De tb_X6_checksum cX6_checksum := by
  unfold en_De
  decide +kernel
def k_X6_checksum_0 : en_K := (1, ([.inr (.inl 0)], []), [([.inr (.inl 0), .inr (.inr 0)], [])], [], [0, 1, 5, 6], (0, 0), [])
def u_X6_checksum_0 : List en_U := [
  (6, ([.inr (.inl 0), .inl (0, 9, 0, 0), .inr (.inr 0)], []), [(0, 0), (3, 1), (1, 2)], (0, 0), [((-1207), 1)], 13277), 
  (25, ([.inr (.inl 0), .inl (0, 600, 0, 0), .inr (.inl 5), .inl (0, 8, 0, 0), .inr (.inr 0), .inl (1, 9, 0, 0)], [(0, 0, 4, 5, 0, 0)]), [(0, 0), (5, 1), (4, 2), (3, 3), (1, 4)], (0, 0), [((-1207), 3), ((-2), 1)], 13275)]
def x_X6_checksum_0 : en_Cx := ((en_KT, en_TY0, en_om0), en_FTX6, en_PTX6, [(118, true, 9, 0, 0, k_X3_kindOf_0)], en_LTX6, en_LLX6, en_TTX6, en_ACX6)
def m_X6_checksum_0 : en_Mx := (k_X6_checksum_0, 1, 6, (1, 0), tb_X6_checksum, [])
set_option maxRecDepth 100000 in
theorem ck_X6_checksum_0 : en_all x_X6_checksum_0 m_X6_checksum_0 u_X6_checksum_0 17 = true := by decide +kernel
theorem ct_X6_checksum_0 {l : Launch} (hl : l.stackTraces = false) {PP : Int32 → Int32 → Prop} (hPP : en_P0 PP) (Ω : Nat → en_H → va_W → Prop) : en_Ctr l vwCl en_TY0 PP en_om0 Ω en_KT yX6_checksum (Cond.code yX6_checksum cX6_checksum 6 (some .long) :: en_cw) (en_rm 1 (0, 0)) 1 k_X6_checksum_0 :=
  en_main (X := x_X6_checksum_0) (M := m_X6_checksum_0) hPP en_f32_ok en_f64_ok hl (by decide +kernel) ⟨en_FTX6_ok, en_PTX6_ok, en_ac (⟨yX3_kindOf, RX3, cX3_kindOf, 2, (some .char), by decide, ct_X3_kindOf_0 hl hPP Ω, fun _ => ⟨gc_RX6_118v, by decide, _, rfl, rfl⟩, fun h => Bool.noConfusion h⟩) en_an, en_LTX6_ok, en_LLX6_ok, en_TTX6_ok hl, ⟨cw256, cw147⟩, en_ACX6_ok⟩ de_X6_checksum ck_X6_checksum_0
def tb_X4_count : en_Tb := [
  (28, [(0, .aload_n 0, 1), (1, .getfield 32, 3), (4, .ifCond .ne 23, 3), (7, .aload_n 0, 1), (8, .dup, 1), (9, .getfield 22, 3), (12, .iload_n 1, 1), (13, .iadd, 1), (14, .putfield 22, 3), (17, .aload_n 0, 1), (18, .dup, 1), (19, .getfield 25, 3), (22, .iconst 1, 1), (23, .iadd, 1), (24, .putfield 25, 3), (27, .return_, 1)])]
set_option maxRecDepth 40000 in
theorem de_X4_count : en_De tb_X4_count cX4_count := by
  unfold en_De
  decide +kernel
def k_X4_count_0 : en_K := (2, ([.inr (.inl 4), .inl ((-2147483648), 2147483647, 0, 0)], []), [([.inr (.inl 4), .inl ((-2147483648), 2147483647, 0, 0)], [])], [(4, 2), (4, 3)], [4], (0, 0), [])
def u_X4_count_0 : List en_U := []
def x_X4_count_0 : en_Cx := ((en_KT, en_TY0, en_om0), en_FTX4, en_PTX4, [], en_LTX4, en_LLX4, en_TTX4, en_ACX4)
def m_X4_count_0 : en_Mx := (k_X4_count_0, 0, 2, (4, 0), tb_X4_count, [])
set_option maxRecDepth 100000 in
theorem ck_X4_count_0 : en_all x_X4_count_0 m_X4_count_0 u_X4_count_0 19 = true := by decide +kernel
theorem ct_X4_count_0 {l : Launch} (hl : l.stackTraces = false) {PP : Int32 → Int32 → Prop} (hPP : en_P0 PP) (Ω : Nat → en_H → va_W → Prop) : en_Ctr l vwCl en_TY0 PP en_om0 Ω en_KT yX4_count (Cond.code yX4_count cX4_count 2 none :: en_cw) (en_rm 0 (0, 0)) 4 k_X4_count_0 :=
  en_main (X := x_X4_count_0) (M := m_X4_count_0) hPP en_f32_ok en_f64_ok hl (by decide +kernel) ⟨en_FTX4_ok, en_PTX4_ok, en_an, en_LTX4_ok, en_LLX4_ok, en_TTX4_ok hl, ⟨cw256, cw147⟩, en_ACX4_ok⟩ de_X4_count ck_X4_count_0
def tb_X6_concedeHole : en_Tb := [
  (28, [(0, .aload_n 0, 1), (1, .getfield 30, 3), (4, .iconst (-1), 1), (5, .putfield 193, 3), (8, .iconst 0, 1), (9, .istore_n 2, 1), (10, .iload_n 2, 1), (11, .aload_n 0, 1), (12, .getfield 122, 3), (15, .if_icmp .ge 38, 3), (18, .aload_n 0, 1), (19, .getfield 18, 3), (22, .iload_n 2, 1), (23, .aaload, 1), (24, .getfield 185, 3), (27, .invokevirtual 280, 3)]), 
  (63, [(30, .ifCond .ne 17, 3), (33, .aload_n 0, 1), (34, .getfield 18, 3), (37, .iload_n 2, 1), (38, .aaload, 1), (39, .getfield 185, 3), (42, .bipush 117, 2), (44, .putfield 205, 3), (47, .iinc 2 1, 3), (50, .goto (-40), 3), (53, .aload_n 0, 1), (54, .getfield 30, 3), (57, .iload_n 1, 1), (58, .ifCond .ne 7, 3), (61, .iconst (-1), 1), (62, .goto 4, 3)]), 
  (78, [(65, .iconst 1, 1), (66, .invokevirtual 408, 3), (69, .aload_n 0, 1), (70, .getfield 30, 3), (73, .iconst 1, 1), (74, .putfield 382, 3), (77, .return_, 1)])]
set_option maxRecDepth 40000 in
theorem de_X6_concedeHole : en_De tb_X6_concedeHole cX6_concedeHole := by
  unfold en_De
  decide +kernel
def k_X6_concedeHole_0 : en_K := (2, ([.inr (.inl 0), .inl ((-2147483648), 2147483647, 0, 0)], []), [([.inr (.inl 0), .inl ((-2147483648), 2147483647, 0, 0)], [])], [(4, 1), (4, 2), (4, 3), (4, 4), (8, 0)], [0, 2, 4, 7, 8], (0, 0), [])
def u_X6_concedeHole_0 : List en_U := [
  (10, ([.inr (.inl 0), .inl ((-2147483648), 2147483647, 0, 0), .inl (0, 6, 0, 0)], []), [(0, 0), (1, 1), (2, 2)], (0, 0), [((-2), 2)], 16)]
def x_X6_concedeHole_0 : en_Cx := ((en_KT, en_TY0, en_om0), en_FTX6, en_PTX6, [(280, true, 6, 0, 0, k_X0_isDone_0), (408, true, 10, 4, 0, k_X4_count_0)], en_LTX6, en_LLX6, en_TTX6, en_ACX6)
def m_X6_concedeHole_0 : en_Mx := (k_X6_concedeHole_0, 1, 3, (4, 0), tb_X6_concedeHole, [])
set_option maxRecDepth 100000 in
theorem ck_X6_concedeHole_0 : en_all x_X6_concedeHole_0 m_X6_concedeHole_0 u_X6_concedeHole_0 23 = true := by decide +kernel
theorem ct_X6_concedeHole_0 {l : Launch} (hl : l.stackTraces = false) {PP : Int32 → Int32 → Prop} (hPP : en_P0 PP) (Ω : Nat → en_H → va_W → Prop) : en_Ctr l vwCl en_TY0 PP en_om0 Ω en_KT yX6_concedeHole (Cond.code yX6_concedeHole cX6_concedeHole 3 none :: en_cw) (en_rm 1 (0, 0)) 4 k_X6_concedeHole_0 :=
  en_main (X := x_X6_concedeHole_0) (M := m_X6_concedeHole_0) hPP en_f32_ok en_f64_ok hl (by decide +kernel) ⟨en_FTX6_ok, en_PTX6_ok, en_ac (⟨yX0_isDone, RX0, cX0_isDone, 1, (some .boolean), by decide, ct_X0_isDone_0 hl hPP Ω, fun _ => ⟨gc_RX6_280v, by decide, _, rfl, rfl⟩, fun h => Bool.noConfusion h⟩) (en_ac (⟨yX4_count, RX4, cX4_count, 2, none, by decide, ct_X4_count_0 hl hPP Ω, fun _ => ⟨gc_RX6_408v, by decide, _, rfl, rfl⟩, fun h => Bool.noConfusion h⟩) en_an), en_LTX6_ok, en_LLX6_ok, en_TTX6_ok hl, ⟨cw256, cw147⟩, en_ACX6_ok⟩ de_X6_concedeHole ck_X6_concedeHole_0
def tb_X6_otherInMatch : en_Tb := [
  (10, [(0, .iload_n 0, 1), (1, .ifCond .ne 7, 3), (4, .iconst 1, 1), (5, .goto 4, 3), (8, .iconst 0, 1), (9, .ireturn, 1)])]
set_option maxRecDepth 40000 in
theorem de_X6_otherInMatch : en_De tb_X6_otherInMatch cX6_otherInMatch := by
  unfold en_De
  decide +kernel
def k_X6_otherInMatch_0 : en_K := (1, ([.inl ((-2147483648), 2147483647, 0, 0)], []), [([.inl ((-2147483648), 2147483647, 0, 0), .inl (0, 0, 0, 0)], [(6, 0, 0, 0, 0, 0)]), ([.inl (0, 0, 0, 0), .inl (1, 1, 0, 0)], [])], [], [], (0, 0), [])
def u_X6_otherInMatch_0 : List en_U := []
def x_X6_otherInMatch_0 : en_Cx := ((en_KT, en_TY0, en_om0), en_FTX6, en_PTX6, [], en_LTX6, en_LLX6, en_TTX6, en_ACX6)
def m_X6_otherInMatch_0 : en_Mx := (k_X6_otherInMatch_0, 0, 1, (0, 0), tb_X6_otherInMatch, [])
set_option maxRecDepth 100000 in
theorem ck_X6_otherInMatch_0 : en_all x_X6_otherInMatch_0 m_X6_otherInMatch_0 u_X6_otherInMatch_0 8 = true := by decide +kernel
theorem ct_X6_otherInMatch_0 {l : Launch} (hl : l.stackTraces = false) {PP : Int32 → Int32 → Prop} (hPP : en_P0 PP) (Ω : Nat → en_H → va_W → Prop) : en_Ctr l vwCl en_TY0 PP en_om0 Ω en_KT yX6_otherInMatch (Cond.code yX6_otherInMatch cX6_otherInMatch 1 (some .int) :: en_cw) (en_rm 0 (0, 0)) 0 k_X6_otherInMatch_0 :=
  en_main (X := x_X6_otherInMatch_0) (M := m_X6_otherInMatch_0) hPP en_f32_ok en_f64_ok hl (by decide +kernel) ⟨en_FTX6_ok, en_PTX6_ok, en_an, en_LTX6_ok, en_LLX6_ok, en_TTX6_ok hl, ⟨cw256, cw147⟩, en_ACX6_ok⟩ de_X6_otherInMatch ck_X6_otherInMatch_0
def tb_X6_concedeStroke : en_Tb := [
  (25, [(0, .aload_n 0, 1), (1, .getfield 30, 3), (4, .iconst (-1), 1), (5, .putfield 193, 3), (8, .aload_n 1, 1), (9, .dup, 1), (10, .getfield 283, 3), (13, .iconst 1, 1), (14, .iadd, 1), (15, .putfield 283, 3), (18, .aload_n 1, 1), (19, .bipush 104, 2), (21, .putfield 205, 3), (24, .return_, 1)])]
set_option maxRecDepth 40000 in
theorem de_X6_concedeStroke : en_De tb_X6_concedeStroke cX6_concedeStroke := by
  unfold en_De
  decide +kernel
def k_X6_concedeStroke_0 : en_K := (2, ([.inr (.inl 0), .inr (.inl 8)], []), [([.inr (.inl 0), .inr (.inl 8)], [])], [(4, 1), (8, 0), (8, 5)], [0, 4, 8], (0, 0), [])
def u_X6_concedeStroke_0 : List en_U := []
def x_X6_concedeStroke_0 : en_Cx := ((en_KT, en_TY0, en_om0), en_FTX6, en_PTX6, [], en_LTX6, en_LLX6, en_TTX6, en_ACX6)
def m_X6_concedeStroke_0 : en_Mx := (k_X6_concedeStroke_0, 0, 2, (4, 0), tb_X6_concedeStroke, [])
set_option maxRecDepth 100000 in
theorem ck_X6_concedeStroke_0 : en_all x_X6_concedeStroke_0 m_X6_concedeStroke_0 u_X6_concedeStroke_0 17 = true := by decide +kernel
theorem ct_X6_concedeStroke_0 {l : Launch} (hl : l.stackTraces = false) {PP : Int32 → Int32 → Prop} (hPP : en_P0 PP) (Ω : Nat → en_H → va_W → Prop) : en_Ctr l vwCl en_TY0 PP en_om0 Ω en_KT yX6_concedeStroke (Cond.code yX6_concedeStroke cX6_concedeStroke 2 none :: en_cw) (en_rm 0 (0, 0)) 4 k_X6_concedeStroke_0 :=
  en_main (X := x_X6_concedeStroke_0) (M := m_X6_concedeStroke_0) hPP en_f32_ok en_f64_ok hl (by decide +kernel) ⟨en_FTX6_ok, en_PTX6_ok, en_an, en_LTX6_ok, en_LLX6_ok, en_TTX6_ok hl, ⟨cw256, cw147⟩, en_ACX6_ok⟩ de_X6_concedeStroke ck_X6_concedeStroke_0
def tb_X6_concede : en_Tb := [
  (31, [(0, .aload_n 0, 1), (1, .iload_n 1, 1), (2, .invokevirtual 127, 3), (5, .iload_n 2, 1), (6, .bipush 115, 2), (8, .if_icmp .eq 26, 3), (11, .iload_n 2, 1), (12, .bipush 104, 2), (14, .if_icmp .eq 20, 3), (17, .iload_n 2, 1), (18, .bipush 109, 2), (20, .if_icmp .eq 14, 3), (23, .new 49, 3), (26, .dup, 1), (27, .ldc_w 377, 3), (30, .invokespecial 53, 3)]), 
  (64, [(33, .athrow, 1), (34, .aload_n 0, 1), (35, .invokevirtual 167, 3), (38, .aload_n 0, 1), (39, .invokevirtual 196, 3), (42, .ifCond .eq 45, 3), (45, .iload_n 2, 1), (46, .bipush 115, 2), (48, .if_icmp .ne 23, 3), (51, .aload_n 0, 1), (52, .getfield 18, 3), (55, .iload_n 1, 1), (56, .invokestatic 379, 3), (59, .aaload, 1), (60, .getfield 185, 3), (63, .getfield 205, 3)]), 
  (100, [(66, .bipush 108, 2), (68, .if_icmp .ne 19, 3), (71, .iload_n 2, 1), (72, .bipush 104, 2), (74, .if_icmp .ne 24, 3), (77, .aload_n 0, 1), (78, .getfield 30, 3), (81, .getfield 382, 3), (84, .ifCond .eq 14, 3), (87, .new 74, 3), (90, .dup, 1), (91, .ldc_w 385, 3), (94, .invokespecial 78, 3), (97, .athrow, 1), (98, .iload_n 2, 1), (99, .lookupswitch 52 #[(104, 44), (115, 25)], 25)]), 
  (156, [(124, .aload_n 0, 1), (125, .aload_n 0, 1), (126, .getfield 18, 3), (129, .iload_n 1, 1), (130, .invokestatic 379, 3), (133, .aaload, 1), (134, .getfield 185, 3), (137, .invokevirtual 387, 3), (140, .goto 19, 3), (143, .aload_n 0, 1), (144, .iload_n 1, 1), (145, .invokevirtual 390, 3), (148, .goto 11, 3), (151, .aload_n 0, 1), (152, .getfield 30, 3), (155, .iconst 1, 1)]), 
  (167, [(156, .putfield 393, 3), (159, .aload_n 0, 1), (160, .getfield 30, 3), (163, .getfield 396, 3), (166, .ireturn, 1)])]
set_option maxRecDepth 40000 in
theorem de_X6_concede : en_De tb_X6_concede cX6_concede := by
  unfold en_De
  decide +kernel
def k_X6_concede_0 : en_K := (3, ([.inr (.inl 0), .inl ((-2147483648), 2147483647, 0, 0), .inl (0, 65535, 0, 0)], []), [([.inr (.inl 0), .inl (0, 5, 0, 0), .inl (104, 115, 0, 0), .inl ((-2147483648), 2147483647, 0, 0)], [])], [(4, 1), (4, 2), (4, 3), (4, 4), (4, 5), (8, 0), (8, 5)], [0, 2, 4, 7, 8], (3, 18), [0, 1, 2, 3])
def u_X6_concede_0 : List en_U := []
def x_X6_concede_0 : en_Cx := ((en_KT, en_TY0, en_om0), en_FTX6, en_PTX6, [(127, true, 12, 4, 0, k_X6_needPlayer_0), (167, true, 12, 4, 0, k_X6_needRound_0), (196, true, 12, 0, 0, k_X6_isMatch_0), (379, false, 0, 0, 0, k_X6_otherInMatch_0), (387, true, 12, 4, 0, k_X6_concedeStroke_0), (390, true, 12, 4, 1, k_X6_concedeHole_0)], en_LTX6, en_LLX6, en_TTX6, en_ACX6)
def m_X6_concede_0 : en_Mx := (k_X6_concede_0, 2, 3, (0, 0), tb_X6_concede, [])
set_option maxRecDepth 100000 in
theorem ck_X6_concede_0 : en_all x_X6_concede_0 m_X6_concede_0 u_X6_concede_0 44 = true := by decide +kernel
theorem ct_X6_concede_0 {l : Launch} (hl : l.stackTraces = false) {PP : Int32 → Int32 → Prop} (hPP : en_P0 PP) (Ω : Nat → en_H → va_W → Prop) : en_Ctr l vwCl en_TY0 PP en_om0 Ω en_KT yX6_concede (Cond.code yX6_concede cX6_concede 3 (some .int) :: en_cw) (en_rm 2 (3, 18)) 0 k_X6_concede_0 :=
  en_main (X := x_X6_concede_0) (M := m_X6_concede_0) hPP en_f32_ok en_f64_ok hl (by decide +kernel) ⟨en_FTX6_ok, en_PTX6_ok, en_ac (⟨yX6_needPlayer, RX6, cX6_needPlayer, 2, none, by decide, ct_X6_needPlayer_0 hl hPP Ω, fun _ => ⟨gc_RX6_127v, by decide, _, rfl, rfl⟩, fun h => Bool.noConfusion h⟩) (en_ac (⟨yX6_needRound, RX6, cX6_needRound, 1, none, by decide, ct_X6_needRound_0 hl hPP Ω, fun _ => ⟨gc_RX6_167v, by decide, _, rfl, rfl⟩, fun h => Bool.noConfusion h⟩) (en_ac (⟨yX6_isMatch, RX6, cX6_isMatch, 1, (some .boolean), by decide, ct_X6_isMatch_0 hl hPP Ω, fun _ => ⟨gc_RX6_196v, by decide, _, rfl, rfl⟩, fun h => Bool.noConfusion h⟩) (en_ac (⟨yX6_otherInMatch, RX6, cX6_otherInMatch, 1, (some .int), by decide, ct_X6_otherInMatch_0 hl hPP Ω, fun h => Bool.noConfusion h, fun _ => gc_RX6_379s⟩) (en_ac (⟨yX6_concedeStroke, RX6, cX6_concedeStroke, 2, none, by decide, ct_X6_concedeStroke_0 hl hPP Ω, fun _ => ⟨gc_RX6_387v, by decide, _, rfl, rfl⟩, fun h => Bool.noConfusion h⟩) (en_ac (⟨yX6_concedeHole, RX6, cX6_concedeHole, 3, none, by decide, ct_X6_concedeHole_0 hl hPP Ω, fun _ => ⟨gc_RX6_390v, by decide, _, rfl, rfl⟩, fun h => Bool.noConfusion h⟩) en_an))))), en_LTX6_ok, en_LLX6_ok, en_TTX6_ok hl, ⟨cw256, cw147⟩, en_ACX6_ok⟩ de_X6_concede ck_X6_concede_0
def tb_X6_conditions : en_Tb := [
  (28, [(0, .iload_n 1, 1), (1, .iconst (-1), 1), (2, .if_icmp .lt 8, 3), (5, .iload_n 1, 1), (6, .iconst 3, 1), (7, .if_icmp .le 14, 3), (10, .new 49, 3), (13, .dup, 1), (14, .ldc_w 511, 3), (17, .invokespecial 53, 3), (20, .athrow, 1), (21, .aload_n 0, 1), (22, .getfield 513, 3), (25, .istore_n 2, 1), (26, .aload_n 0, 1), (27, .iload_n 1, 1)]), 
  (33, [(28, .putfield 513, 3), (31, .iload_n 2, 1), (32, .ireturn, 1)])]
set_option maxRecDepth 40000 in
theorem de_X6_conditions : en_De tb_X6_conditions cX6_conditions := by
  unfold en_De
  decide +kernel
def k_X6_conditions_0 : en_K := (2, ([.inr (.inl 0), .inl ((-2147483648), 2147483647, 0, 0)], []), [([.inr (.inl 0), .inl ((-1), 3, 0, 0), .inl ((-1), 3, 0, 0)], [(0, 0, 8, 1, 0, 0)])], [(0, 8)], [0], (1, 6), [0])
def u_X6_conditions_0 : List en_U := []
def x_X6_conditions_0 : en_Cx := ((en_KT, en_TY0, en_om0), en_FTX6, en_PTX6, [], en_LTX6, en_LLX6, en_TTX6, en_ACX6)
def m_X6_conditions_0 : en_Mx := (k_X6_conditions_0, 0, 3, (0, 0), tb_X6_conditions, [])
set_option maxRecDepth 100000 in
theorem ck_X6_conditions_0 : en_all x_X6_conditions_0 m_X6_conditions_0 u_X6_conditions_0 17 = true := by decide +kernel
theorem ct_X6_conditions_0 {l : Launch} (hl : l.stackTraces = false) {PP : Int32 → Int32 → Prop} (hPP : en_P0 PP) (Ω : Nat → en_H → va_W → Prop) : en_Ctr l vwCl en_TY0 PP en_om0 Ω en_KT yX6_conditions (Cond.code yX6_conditions cX6_conditions 3 (some .int) :: en_cw) (en_rm 0 (1, 6)) 0 k_X6_conditions_0 :=
  en_main (X := x_X6_conditions_0) (M := m_X6_conditions_0) hPP en_f32_ok en_f64_ok hl (by decide +kernel) ⟨en_FTX6_ok, en_PTX6_ok, en_an, en_LTX6_ok, en_LLX6_ok, en_TTX6_ok hl, ⟨cw256, cw147⟩, en_ACX6_ok⟩ de_X6_conditions ck_X6_conditions_0
def tb_X0_putRightly : en_Tb := [
  (29, [(0, .aload_n 0, 1), (1, .bipush 108, 2), (3, .putfield 9, 3), (6, .aload_n 0, 1), (7, .aload_n 0, 1), (8, .getfield 47, 3), (11, .putfield 15, 3), (14, .aload_n 0, 1), (15, .iconst 0, 1), (16, .putfield 19, 3), (19, .aload_n 0, 1), (20, .aload_n 0, 1), (21, .getfield 50, 3), (24, .putfield 23, 3), (27, .aload_n 0, 1), (28, .aload_n 0, 1)]), 
  (60, [(29, .getfield 53, 3), (32, .putfield 26, 3), (35, .aload_n 0, 1), (36, .aload_n 0, 1), (37, .getfield 56, 3), (40, .putfield 29, 3), (43, .aload_n 0, 1), (44, .aload_n 0, 1), (45, .getfield 59, 3), (48, .iconst 2, 1), (49, .iadd, 1), (50, .putfield 32, 3), (53, .aload_n 0, 1), (54, .bipush 45, 2), (56, .putfield 35, 3), (59, .aload_n 0, 1)]), 
  (70, [(60, .iconst 0, 1), (61, .putfield 38, 3), (64, .aload_n 0, 1), (65, .iconst 0, 1), (66, .putfield 41, 3), (69, .return_, 1)])]
set_option maxRecDepth 40000 in
theorem de_X0_putRightly : en_De tb_X0_putRightly cX0_putRightly := by
  unfold en_De
  decide +kernel
def k_X0_putRightly_0 : en_K := (1, ([.inr (.inl 8)], []), [([.inr (.inl 8)], [])], [(8, 0), (8, 1), (8, 2), (8, 3), (8, 4), (8, 5), (8, 6), (8, 7), (8, 9), (8, 10)], [8], (0, 0), [])
def u_X0_putRightly_0 : List en_U := []
def x_X0_putRightly_0 : en_Cx := ((en_KT, en_TY0, en_om0), en_FTX0, en_PTX0, [], en_LTX0, en_LLX0, en_TTX0, en_ACX0)
def m_X0_putRightly_0 : en_Mx := (k_X0_putRightly_0, 0, 1, (4, 0), tb_X0_putRightly, [])
set_option maxRecDepth 100000 in
theorem ck_X0_putRightly_0 : en_all x_X0_putRightly_0 m_X0_putRightly_0 u_X0_putRightly_0 41 = true := by decide +kernel
theorem ct_X0_putRightly_0 {l : Launch} (hl : l.stackTraces = false) {PP : Int32 → Int32 → Prop} (hPP : en_P0 PP) (Ω : Nat → en_H → va_W → Prop) : en_Ctr l vwCl en_TY0 PP en_om0 Ω en_KT yX0_putRightly (Cond.code yX0_putRightly cX0_putRightly 1 none :: en_cw) (en_rm 0 (0, 0)) 4 k_X0_putRightly_0 :=
  en_main (X := x_X0_putRightly_0) (M := m_X0_putRightly_0) hPP en_f32_ok en_f64_ok hl (by decide +kernel) ⟨en_FTX0_ok, en_PTX0_ok, en_an, en_LTX0_ok, en_LLX0_ok, en_TTX0_ok hl, ⟨cw256, cw147⟩, en_ACX0_ok⟩ de_X0_putRightly ck_X0_putRightly_0
def tb_X6_correct : en_Tb := [
  (30, [(0, .aload_n 0, 1), (1, .iload_n 1, 1), (2, .invokevirtual 127, 3), (5, .aload_n 0, 1), (6, .invokevirtual 167, 3), (9, .aload_n 0, 1), (10, .getfield 18, 3), (13, .iload_n 1, 1), (14, .aaload, 1), (15, .getfield 185, 3), (18, .astore_n 2, 1), (19, .aload_n 2, 1), (20, .getfield 335, 3), (23, .ifCond .ne 14, 3), (26, .new 74, 3), (29, .dup, 1)]), 
  (46, [(30, .ldc_w 346, 3), (33, .invokespecial 78, 3), (36, .athrow, 1), (37, .aload_n 2, 1), (38, .invokevirtual 348, 3), (41, .aload_n 2, 1), (42, .invokevirtual 351, 3), (45, .ireturn, 1)])]
set_option maxRecDepth 40000 in
theorem de_X6_correct : en_De tb_X6_correct cX6_correct := by
  unfold en_De
  decide +kernel
def k_X6_correct_0 : en_K := (2, ([.inr (.inl 0), .inl ((-2147483648), 2147483647, 0, 0)], []), [([.inr (.inl 0), .inl (0, 5, 0, 0), .inl ((-2147483648), 2147483647, 0, 0)], [])], [(8, 0), (8, 1), (8, 2), (8, 3), (8, 4), (8, 5), (8, 6), (8, 7), (8, 9), (8, 10)], [0, 2, 7, 8], (3, 18), [1, 2, 3])
def u_X6_correct_0 : List en_U := []
def x_X6_correct_0 : en_Cx := ((en_KT, en_TY0, en_om0), en_FTX6, en_PTX6, [(127, true, 12, 4, 0, k_X6_needPlayer_0), (167, true, 12, 4, 0, k_X6_needRound_0), (348, true, 6, 4, 0, k_X0_putRightly_0), (351, true, 6, 0, 0, k_X0_scoreSoFar_0)], en_LTX6, en_LLX6, en_TTX6, en_ACX6)
def m_X6_correct_0 : en_Mx := (k_X6_correct_0, 1, 3, (0, 0), tb_X6_correct, [])
set_option maxRecDepth 100000 in
theorem ck_X6_correct_0 : en_all x_X6_correct_0 m_X6_correct_0 u_X6_correct_0 22 = true := by decide +kernel
theorem ct_X6_correct_0 {l : Launch} (hl : l.stackTraces = false) {PP : Int32 → Int32 → Prop} (hPP : en_P0 PP) (Ω : Nat → en_H → va_W → Prop) : en_Ctr l vwCl en_TY0 PP en_om0 Ω en_KT yX6_correct (Cond.code yX6_correct cX6_correct 3 (some .int) :: en_cw) (en_rm 1 (3, 18)) 0 k_X6_correct_0 :=
  en_main (X := x_X6_correct_0) (M := m_X6_correct_0) hPP en_f32_ok en_f64_ok hl (by decide +kernel) ⟨en_FTX6_ok, en_PTX6_ok, en_ac (⟨yX6_needPlayer, RX6, cX6_needPlayer, 2, none, by decide, ct_X6_needPlayer_0 hl hPP Ω, fun _ => ⟨gc_RX6_127v, by decide, _, rfl, rfl⟩, fun h => Bool.noConfusion h⟩) (en_ac (⟨yX6_needRound, RX6, cX6_needRound, 1, none, by decide, ct_X6_needRound_0 hl hPP Ω, fun _ => ⟨gc_RX6_167v, by decide, _, rfl, rfl⟩, fun h => Bool.noConfusion h⟩) (en_ac (⟨yX0_putRightly, RX0, cX0_putRightly, 1, none, by decide, ct_X0_putRightly_0 hl hPP Ω, fun _ => ⟨gc_RX6_348v, by decide, _, rfl, rfl⟩, fun h => Bool.noConfusion h⟩) (en_ac (⟨yX0_scoreSoFar, RX0, cX0_scoreSoFar, 1, (some .int), by decide, ct_X0_scoreSoFar_0 hl hPP Ω, fun _ => ⟨gc_RX6_351v, by decide, _, rfl, rfl⟩, fun h => Bool.noConfusion h⟩) en_an))), en_LTX6_ok, en_LLX6_ok, en_TTX6_ok hl, ⟨cw256, cw147⟩, en_ACX6_ok⟩ de_X6_correct ck_X6_correct_0
def tb_X1_isRanked : en_Tb := [
  (20, [(0, .aload_n 0, 1), (1, .getfield 21, 3), (4, .ifCond .eq 14, 3), (7, .aload_n 0, 1), (8, .getfield 25, 3), (11, .ifCond .ne 7, 3), (14, .iconst 1, 1), (15, .goto 4, 3), (18, .iconst 0, 1), (19, .ireturn, 1)])]
set_option maxRecDepth 40000 in
theorem de_X1_isRanked : en_De tb_X1_isRanked cX1_isRanked := by
  unfold en_De
  decide +kernel
def k_X1_isRanked_0 : en_K := (1, ([.inr (.inl 9)], []), [([.inr (.inl 9), .inl (0, 0, 0, 0)], []), ([.inr (.inl 9), .inl (1, 1, 0, 0)], [])], [], [9], (0, 0), [])
def u_X1_isRanked_0 : List en_U := []
def x_X1_isRanked_0 : en_Cx := ((en_KT, en_TY0, en_om0), en_FTX1, en_PTX1, [], en_LTX1, en_LLX1, en_TTX1, en_ACX1)
def m_X1_isRanked_0 : en_Mx := (k_X1_isRanked_0, 0, 1, (0, 2), tb_X1_isRanked, [])
set_option maxRecDepth 100000 in
theorem ck_X1_isRanked_0 : en_all x_X1_isRanked_0 m_X1_isRanked_0 u_X1_isRanked_0 12 = true := by decide +kernel
theorem ct_X1_isRanked_0 {l : Launch} (hl : l.stackTraces = false) {PP : Int32 → Int32 → Prop} (hPP : en_P0 PP) (Ω : Nat → en_H → va_W → Prop) : en_Ctr l vwCl en_TY0 PP en_om0 Ω en_KT yX1_isRanked (Cond.code yX1_isRanked cX1_isRanked 1 (some .boolean) :: en_cw) (en_rm 0 (0, 0)) 0 k_X1_isRanked_0 :=
  en_main (X := x_X1_isRanked_0) (M := m_X1_isRanked_0) hPP en_f32_ok en_f64_ok hl (by decide +kernel) ⟨en_FTX1_ok, en_PTX1_ok, en_an, en_LTX1_ok, en_LLX1_ok, en_TTX1_ok hl, ⟨cw256, cw147⟩, en_ACX1_ok⟩ de_X1_isRanked ck_X1_isRanked_0
def tb_X1_writtenOn : en_Tb := [
  (21, [(0, .iload_n 1, 1), (1, .ifCond .lt 18, 3), (4, .iload_n 1, 1), (5, .bipush 9, 2), (7, .if_icmp .ge 12, 3), (10, .aload_n 0, 1), (11, .getfield 18, 3), (14, .iload_n 1, 1), (15, .iaload, 1), (16, .goto 4, 3), (19, .iconst 0, 1), (20, .ireturn, 1)])]
set_option maxRecDepth 40000 in
theorem de_X1_writtenOn : en_De tb_X1_writtenOn cX1_writtenOn := by
  unfold en_De
  decide +kernel
def k_X1_writtenOn_0 : en_K := (2, ([.inr (.inl 9), .inl ((-2147483648), 2147483647, 0, 0)], []), [([.inr (.inl 9), .inl ((-2147483648), 2147483647, 0, 0), .inl ((-2147483648), 2147483647, 0, 0)], [])], [], [9, 10], (0, 0), [])
def u_X1_writtenOn_0 : List en_U := []
def x_X1_writtenOn_0 : en_Cx := ((en_KT, en_TY0, en_om0), en_FTX1, en_PTX1, [], en_LTX1, en_LLX1, en_TTX1, en_ACX1)
def m_X1_writtenOn_0 : en_Mx := (k_X1_writtenOn_0, 0, 2, (0, 0), tb_X1_writtenOn, [])
set_option maxRecDepth 100000 in
theorem ck_X1_writtenOn_0 : en_all x_X1_writtenOn_0 m_X1_writtenOn_0 u_X1_writtenOn_0 14 = true := by decide +kernel
theorem ct_X1_writtenOn_0 {l : Launch} (hl : l.stackTraces = false) {PP : Int32 → Int32 → Prop} (hPP : en_P0 PP) (Ω : Nat → en_H → va_W → Prop) : en_Ctr l vwCl en_TY0 PP en_om0 Ω en_KT yX1_writtenOn (Cond.code yX1_writtenOn cX1_writtenOn 2 (some .int) :: en_cw) (en_rm 0 (0, 0)) 0 k_X1_writtenOn_0 :=
  en_main (X := x_X1_writtenOn_0) (M := m_X1_writtenOn_0) hPP en_f32_ok en_f64_ok hl (by decide +kernel) ⟨en_FTX1_ok, en_PTX1_ok, en_an, en_LTX1_ok, en_LLX1_ok, en_TTX1_ok hl, ⟨cw256, cw147⟩, en_ACX1_ok⟩ de_X1_writtenOn ck_X1_writtenOn_0
def tb_X1_sumFrom : en_Tb := [
  (27, [(0, .iconst 0, 1), (1, .istore_n 3, 1), (2, .iload_n 1, 1), (3, .istore 4, 2), (5, .iload 4, 2), (7, .iload_n 2, 1), (8, .if_icmp .ge 18, 3), (11, .iload_n 3, 1), (12, .aload_n 0, 1), (13, .iload 4, 2), (15, .invokevirtual 51, 3), (18, .iadd, 1), (19, .istore_n 3, 1), (20, .iinc 4 1, 3), (23, .goto (-18), 3), (26, .iload_n 3, 1)]), 
  (28, [(27, .ireturn, 1)])]
set_option maxRecDepth 40000 in
theorem de_X1_sumFrom : en_De tb_X1_sumFrom cX1_sumFrom := by
  unfold en_De
  decide +kernel
def k_X1_sumFrom_0 : en_K := (3, ([.inr (.inl 9), .inl ((-9), 9, 0, 0), .inl (0, 9, 0, 0)], []), [([.inr (.inl 9), .inl ((-9), 9, 0, 0), .inl (0, 9, 0, 0), .inl ((-2147483648), 2147483647, 0, 0)], [])], [], [9, 10], (0, 0), [])
def u_X1_sumFrom_0 : List en_U := [
  (5, ([.inr (.inl 9), .inl ((-9), 9, 0, 0), .inl (0, 9, 0, 0), .inl ((-9), 9, 0, 0), .inl ((-2147483648), 2147483647, 0, 0)], []), [(0, 0), (1, 1), (2, 2), (4, 3), (3, 4)], (0, 0), [((-2), 3)], 22)]
def x_X1_sumFrom_0 : en_Cx := ((en_KT, en_TY0, en_om0), en_FTX1, en_PTX1, [(51, true, 7, 0, 0, k_X1_writtenOn_0)], en_LTX1, en_LLX1, en_TTX1, en_ACX1)
def m_X1_sumFrom_0 : en_Mx := (k_X1_sumFrom_0, 1, 5, (0, 0), tb_X1_sumFrom, [])
set_option maxRecDepth 100000 in
theorem ck_X1_sumFrom_0 : en_all x_X1_sumFrom_0 m_X1_sumFrom_0 u_X1_sumFrom_0 14 = true := by decide +kernel
theorem ct_X1_sumFrom_0 {l : Launch} (hl : l.stackTraces = false) {PP : Int32 → Int32 → Prop} (hPP : en_P0 PP) (Ω : Nat → en_H → va_W → Prop) : en_Ctr l vwCl en_TY0 PP en_om0 Ω en_KT yX1_sumFrom (Cond.code yX1_sumFrom cX1_sumFrom 5 (some .int) :: en_cw) (en_rm 1 (0, 0)) 0 k_X1_sumFrom_0 :=
  en_main (X := x_X1_sumFrom_0) (M := m_X1_sumFrom_0) hPP en_f32_ok en_f64_ok hl (by decide +kernel) ⟨en_FTX1_ok, en_PTX1_ok, en_ac (⟨yX1_writtenOn, RX1, cX1_writtenOn, 2, (some .int), by decide, ct_X1_writtenOn_0 hl hPP Ω, fun _ => ⟨gc_RX1_51v, by decide, _, rfl, rfl⟩, fun h => Bool.noConfusion h⟩) en_an, en_LTX1_ok, en_LLX1_ok, en_TTX1_ok hl, ⟨cw256, cw147⟩, en_ACX1_ok⟩ de_X1_sumFrom ck_X1_sumFrom_0
