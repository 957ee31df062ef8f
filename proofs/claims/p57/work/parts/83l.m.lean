def tb_X0_find : en_Tb := [
  (13, [(0, .aload_n 0, 1), (1, .bipush 108, 2), (3, .putfield 9, 3), (6, .aload_n 0, 1), (7, .bipush 45, 2), (9, .putfield 35, 3), (12, .return_, 1)])]
set_option maxRecDepth 40000 in
theorem de_X0_find : en_De tb_X0_find cX0_find := by
  unfold en_De
  decide +kernel
def k_X0_find_0 : en_K := (1, ([.inr (.inl 8)], []), [([.inr (.inl 8)], [])], [(8, 0), (8, 7)], [8], (0, 0), [])
def u_X0_find_0 : List en_U := []
def x_X0_find_0 : en_Cx := ((en_KT, en_TY0, en_om0), en_FTX0, en_PTX0, [], en_LTX0, en_LLX0, en_TTX0, en_ACX0)
def m_X0_find_0 : en_Mx := (k_X0_find_0, 0, 1, (4, 0), tb_X0_find, [])
set_option maxRecDepth 100000 in
theorem ck_X0_find_0 : en_all x_X0_find_0 m_X0_find_0 u_X0_find_0 10 = true := by decide +kernel
theorem ct_X0_find_0 {l : Launch} (hl : l.stackTraces = false) {PP : Int32 → Int32 → Prop} (hPP : en_P0 PP) (Ω : Nat → en_H → va_W → Prop) : en_Ctr l vwCl en_TY0 PP en_om0 Ω en_KT yX0_find (Cond.code yX0_find cX0_find 1 none :: en_cw) (en_rm 0 (0, 0)) 4 k_X0_find_0 :=
  en_main (X := x_X0_find_0) (M := m_X0_find_0) hPP en_f32_ok en_f64_ok hl (by decide +kernel) ⟨en_FTX0_ok, en_PTX0_ok, en_an, en_LTX0_ok, en_LLX0_ok, en_TTX0_ok hl, ⟨cw256, cw147⟩, en_ACX0_ok⟩ de_X0_find ck_X0_find_0
def tb_X0_lose : en_Tb := [
  (28, [(0, .aload_n 0, 1), (1, .getfield 35, 3), (4, .bipush 45, 2), (6, .if_icmp .ne 10, 3), (9, .aload_n 0, 1), (10, .bipush 120, 2), (12, .putfield 9, 3), (15, .return_, 1), (16, .aload_n 0, 1), (17, .dup, 1), (18, .getfield 29, 3), (21, .iconst 1, 1), (22, .iadd, 1), (23, .putfield 29, 3), (26, .aload_n 0, 1), (27, .dup, 1)]), 
  (60, [(28, .getfield 32, 3), (31, .iconst 1, 1), (32, .iadd, 1), (33, .putfield 32, 3), (36, .aload_n 0, 1), (37, .aload_n 0, 1), (38, .getfield 35, 3), (41, .bipush 103, 2), (43, .if_icmp .ne 8, 3), (46, .bipush 120, 2), (48, .goto 7, 3), (51, .aload_n 0, 1), (52, .getfield 35, 3), (55, .putfield 9, 3), (58, .aload_n 0, 1), (59, .aload_n 0, 1)]), 
  (73, [(60, .getfield 44, 3), (63, .putfield 15, 3), (66, .aload_n 0, 1), (67, .bipush 45, 2), (69, .putfield 35, 3), (72, .return_, 1)])]
set_option maxRecDepth 40000 in
theorem de_X0_lose : en_De tb_X0_lose cX0_lose := by
  unfold en_De
  decide +kernel
def k_X0_lose_0 : en_K := (1, ([.inr (.inl 8)], []), [([.inr (.inl 8)], [])], [(8, 0), (8, 1), (8, 5), (8, 6), (8, 7)], [8], (0, 0), [])
def u_X0_lose_0 : List en_U := []
def x_X0_lose_0 : en_Cx := ((en_KT, en_TY0, en_om0), en_FTX0, en_PTX0, [], en_LTX0, en_LLX0, en_TTX0, en_ACX0)
def m_X0_lose_0 : en_Mx := (k_X0_lose_0, 0, 1, (4, 0), tb_X0_lose, [])
set_option maxRecDepth 100000 in
theorem ck_X0_lose_0 : en_all x_X0_lose_0 m_X0_lose_0 u_X0_lose_0 35 = true := by decide +kernel
theorem ct_X0_lose_0 {l : Launch} (hl : l.stackTraces = false) {PP : Int32 → Int32 → Prop} (hPP : en_P0 PP) (Ω : Nat → en_H → va_W → Prop) : en_Ctr l vwCl en_TY0 PP en_om0 Ω en_KT yX0_lose (Cond.code yX0_lose cX0_lose 1 none :: en_cw) (en_rm 0 (0, 0)) 4 k_X0_lose_0 :=
  en_main (X := x_X0_lose_0) (M := m_X0_lose_0) hPP en_f32_ok en_f64_ok hl (by decide +kernel) ⟨en_FTX0_ok, en_PTX0_ok, en_an, en_LTX0_ok, en_LLX0_ok, en_TTX0_ok hl, ⟨cw256, cw147⟩, en_ACX0_ok⟩ de_X0_lose ck_X0_lose_0
def tb_X6_search : en_Tb := [
  (29, [(0, .aload_n 0, 1), (1, .iload_n 1, 1), (2, .invokevirtual 127, 3), (5, .aload_n 0, 1), (6, .invokevirtual 182, 3), (9, .aload_n 0, 1), (10, .getfield 18, 3), (13, .iload_n 1, 1), (14, .aaload, 1), (15, .getfield 185, 3), (18, .astore_n 2, 1), (19, .aload_n 2, 1), (20, .getfield 205, 3), (23, .bipush 115, 2), (25, .if_icmp .eq 14, 3), (28, .new 74, 3)]), 
  (61, [(31, .dup, 1), (32, .ldc_w 268, 3), (35, .invokespecial 78, 3), (38, .athrow, 1), (39, .aload_n 0, 1), (40, .getfield 30, 3), (43, .iconst (-1), 1), (44, .putfield 193, 3), (47, .aload_n 0, 1), (48, .getfield 11, 3), (51, .aload_n 0, 1), (52, .getfield 170, 3), (55, .aaload, 1), (56, .aload_n 2, 1), (57, .getfield 211, 3), (60, .invokevirtual 118, 3)]), 
  (92, [(63, .bipush 100, 2), (65, .if_icmp .ne 18, 3), (68, .aload_n 0, 1), (69, .iconst 4, 1), (70, .invokevirtual 270, 3), (73, .ifCond .eq 10, 3), (76, .aload_n 2, 1), (77, .invokevirtual 274, 3), (80, .goto 7, 3), (83, .aload_n 2, 1), (84, .invokevirtual 277, 3), (87, .aload_n 2, 1), (88, .getfield 205, 3), (91, .ireturn, 1)])]
set_option maxRecDepth 40000 in
theorem de_X6_search : en_De tb_X6_search cX6_search := by
  unfold en_De
  decide +kernel
def k_X6_search_0 : en_K := (2, ([.inr (.inl 0), .inl ((-2147483648), 2147483647, 0, 0)], []), [([.inr (.inl 0), .inl (0, 5, 0, 0), .inl (0, 65535, 0, 0)], [])], [(0, 6), (4, 1), (8, 0), (8, 1), (8, 5), (8, 6), (8, 7)], [0, 1, 2, 4, 5, 6, 7, 8], (3, 18), [1, 2, 3])
def u_X6_search_0 : List en_U := []
def x_X6_search_0 : en_Cx := ((en_KT, en_TY0, en_om0), en_FTX6, en_PTX6, [(118, true, 9, 0, 0, k_X3_kindOf_0), (127, true, 12, 4, 0, k_X6_needPlayer_0), (182, true, 12, 4, 0, k_X6_needPlay_0), (270, true, 12, 0, 0, k_X6_draw_0), (274, true, 6, 4, 0, k_X0_find_0), (277, true, 6, 4, 0, k_X0_lose_0)], en_LTX6, en_LLX6, en_TTX6, en_ACX6)
def m_X6_search_0 : en_Mx := (k_X6_search_0, 1, 3, (0, 1), tb_X6_search, [])
set_option maxRecDepth 100000 in
theorem ck_X6_search_0 : en_all x_X6_search_0 m_X6_search_0 u_X6_search_0 42 = true := by decide +kernel
theorem ct_X6_search_0 {l : Launch} (hl : l.stackTraces = false) {PP : Int32 → Int32 → Prop} (hPP : en_P0 PP) (Ω : Nat → en_H → va_W → Prop) : en_Ctr l vwCl en_TY0 PP en_om0 Ω en_KT yX6_search (Cond.code yX6_search cX6_search 3 (some .char) :: en_cw) (en_rm 1 (3, 18)) 0 k_X6_search_0 :=
  en_main (X := x_X6_search_0) (M := m_X6_search_0) hPP en_f32_ok en_f64_ok hl (by decide +kernel) ⟨en_FTX6_ok, en_PTX6_ok, en_ac (⟨yX3_kindOf, RX3, cX3_kindOf, 2, (some .char), by decide, ct_X3_kindOf_0 hl hPP Ω, fun _ => ⟨gc_RX6_118v, by decide, _, rfl, rfl⟩, fun h => Bool.noConfusion h⟩) (en_ac (⟨yX6_needPlayer, RX6, cX6_needPlayer, 2, none, by decide, ct_X6_needPlayer_0 hl hPP Ω, fun _ => ⟨gc_RX6_127v, by decide, _, rfl, rfl⟩, fun h => Bool.noConfusion h⟩) (en_ac (⟨yX6_needPlay, RX6, cX6_needPlay, 1, none, by decide, ct_X6_needPlay_0 hl hPP Ω, fun _ => ⟨gc_RX6_182v, by decide, _, rfl, rfl⟩, fun h => Bool.noConfusion h⟩) (en_ac (⟨yX6_draw, RX6, cX6_draw, 2, (some .int), by decide, ct_X6_draw_0 hl hPP Ω, fun _ => ⟨gc_RX6_270v, by decide, _, rfl, rfl⟩, fun h => Bool.noConfusion h⟩) (en_ac (⟨yX0_find, RX0, cX0_find, 1, none, by decide, ct_X0_find_0 hl hPP Ω, fun _ => ⟨gc_RX6_274v, by decide, _, rfl, rfl⟩, fun h => Bool.noConfusion h⟩) (en_ac (⟨yX0_lose, RX0, cX0_lose, 1, none, by decide, ct_X0_lose_0 hl hPP Ω, fun _ => ⟨gc_RX6_277v, by decide, _, rfl, rfl⟩, fun h => Bool.noConfusion h⟩) en_an))))), en_LTX6_ok, en_LLX6_ok, en_TTX6_ok hl, ⟨cw256, cw147⟩, en_ACX6_ok⟩ de_X6_search ck_X6_search_0
def tb_X6_setHandicap : en_Tb := [
  (30, [(0, .aload_n 0, 1), (1, .iload_n 1, 1), (2, .invokevirtual 127, 3), (5, .iload_n 2, 1), (6, .ifCond .lt 9, 3), (9, .iload_n 2, 1), (10, .bipush 36, 2), (12, .if_icmp .le 13, 3), (15, .new 49, 3), (18, .dup, 1), (19, .ldc 130, 2), (21, .invokespecial 53, 3), (24, .athrow, 1), (25, .aload_n 0, 1), (26, .getfield 132, 3), (29, .ifCond .eq 13, 3)]), 
  (59, [(32, .new 65, 3), (35, .dup, 1), (36, .ldc 135, 2), (38, .invokespecial 69, 3), (41, .athrow, 1), (42, .aload_n 0, 1), (43, .getfield 18, 3), (46, .iload_n 1, 1), (47, .aaload, 1), (48, .getfield 137, 3), (51, .istore_n 3, 1), (52, .aload_n 0, 1), (53, .getfield 18, 3), (56, .iload_n 1, 1), (57, .aaload, 1), (58, .iload_n 2, 1)]), 
  (64, [(59, .putfield 137, 3), (62, .iload_n 3, 1), (63, .ireturn, 1)])]
set_option maxRecDepth 40000 in
theorem de_X6_setHandicap : en_De tb_X6_setHandicap cX6_setHandicap := by
  unfold en_De
  decide +kernel
def k_X6_setHandicap_0 : en_K := (3, ([.inr (.inl 0), .inl ((-2147483648), 2147483647, 0, 0), .inl ((-2147483648), 2147483647, 0, 0)], []), [([.inr (.inl 0), .inl (0, 5, 0, 0), .inl (0, 36, 0, 0), .inl (0, 36, 0, 0)], [])], [(7, 3)], [0, 2, 7], (2, 12), [0, 1, 3])
def u_X6_setHandicap_0 : List en_U := []
def x_X6_setHandicap_0 : en_Cx := ((en_KT, en_TY0, en_om0), en_FTX6, en_PTX6, [(127, true, 12, 4, 0, k_X6_needPlayer_0)], en_LTX6, en_LLX6, en_TTX6, en_ACX6)
def m_X6_setHandicap_0 : en_Mx := (k_X6_setHandicap_0, 1, 4, (0, 0), tb_X6_setHandicap, [])
set_option maxRecDepth 100000 in
theorem ck_X6_setHandicap_0 : en_all x_X6_setHandicap_0 m_X6_setHandicap_0 u_X6_setHandicap_0 28 = true := by decide +kernel
theorem ct_X6_setHandicap_0 {l : Launch} (hl : l.stackTraces = false) {PP : Int32 → Int32 → Prop} (hPP : en_P0 PP) (Ω : Nat → en_H → va_W → Prop) : en_Ctr l vwCl en_TY0 PP en_om0 Ω en_KT yX6_setHandicap (Cond.code yX6_setHandicap cX6_setHandicap 4 (some .int) :: en_cw) (en_rm 1 (2, 12)) 0 k_X6_setHandicap_0 :=
  en_main (X := x_X6_setHandicap_0) (M := m_X6_setHandicap_0) hPP en_f32_ok en_f64_ok hl (by decide +kernel) ⟨en_FTX6_ok, en_PTX6_ok, en_ac (⟨yX6_needPlayer, RX6, cX6_needPlayer, 2, none, by decide, ct_X6_needPlayer_0 hl hPP Ω, fun _ => ⟨gc_RX6_127v, by decide, _, rfl, rfl⟩, fun h => Bool.noConfusion h⟩) en_an, en_LTX6_ok, en_LLX6_ok, en_TTX6_ok hl, ⟨cw256, cw147⟩, en_ACX6_ok⟩ de_X6_setHandicap ck_X6_setHandicap_0
def tb_X6_setSeed : en_Tb := [
  (12, [(0, .aload_n 0, 1), (1, .getfield 34, 3), (4, .istore_n 2, 1), (5, .aload_n 0, 1), (6, .iload_n 1, 1), (7, .putfield 34, 3), (10, .iload_n 2, 1), (11, .ireturn, 1)])]
set_option maxRecDepth 40000 in
theorem de_X6_setSeed : en_De tb_X6_setSeed cX6_setSeed := by
  unfold en_De
  decide +kernel
def k_X6_setSeed_0 : en_K := (2, ([.inr (.inl 0), .inl ((-2147483648), 2147483647, 0, 0)], []), [([.inr (.inl 0), .inl ((-2147483648), 2147483647, 0, 0), .inl ((-2147483648), 2147483647, 0, 0)], [(0, 0, 6, 1, 0, 0)])], [(0, 6)], [0], (0, 0), [])
def u_X6_setSeed_0 : List en_U := []
def x_X6_setSeed_0 : en_Cx := ((en_KT, en_TY0, en_om0), en_FTX6, en_PTX6, [], en_LTX6, en_LLX6, en_TTX6, en_ACX6)
def m_X6_setSeed_0 : en_Mx := (k_X6_setSeed_0, 0, 3, (0, 0), tb_X6_setSeed, [])
set_option maxRecDepth 100000 in
theorem ck_X6_setSeed_0 : en_all x_X6_setSeed_0 m_X6_setSeed_0 u_X6_setSeed_0 11 = true := by decide +kernel
theorem ct_X6_setSeed_0 {l : Launch} (hl : l.stackTraces = false) {PP : Int32 → Int32 → Prop} (hPP : en_P0 PP) (Ω : Nat → en_H → va_W → Prop) : en_Ctr l vwCl en_TY0 PP en_om0 Ω en_KT yX6_setSeed (Cond.code yX6_setSeed cX6_setSeed 3 (some .int) :: en_cw) (en_rm 0 (0, 0)) 0 k_X6_setSeed_0 :=
  en_main (X := x_X6_setSeed_0) (M := m_X6_setSeed_0) hPP en_f32_ok en_f64_ok hl (by decide +kernel) ⟨en_FTX6_ok, en_PTX6_ok, en_an, en_LTX6_ok, en_LLX6_ok, en_TTX6_ok hl, ⟨cw256, cw147⟩, en_ACX6_ok⟩ de_X6_setSeed ck_X6_setSeed_0
def tb_X1_isScoredOn : en_Tb := [
  (25, [(0, .iconst 0, 1), (1, .istore_n 2, 1), (2, .iload_n 2, 1), (3, .iload_n 1, 1), (4, .if_icmp .ge 19, 3), (7, .aload_n 0, 1), (8, .iload_n 2, 1), (9, .invokevirtual 47, 3), (12, .ifCond .ne 5, 3), (15, .iconst 0, 1), (16, .ireturn, 1), (17, .iinc 2 1, 3), (20, .goto (-18), 3), (23, .iconst 1, 1), (24, .ireturn, 1)])]
set_option maxRecDepth 40000 in
theorem de_X1_isScoredOn : en_De tb_X1_isScoredOn cX1_isScoredOn := by
  unfold en_De
  decide +kernel
def k_X1_isScoredOn_0 : en_K := (2, ([.inr (.inl 9), .inl (0, 9, 0, 0)], []), [([.inr (.inl 9), .inl (1, 9, 0, 0), .inl (0, 0, 0, 0)], []), ([.inr (.inl 9), .inl (0, 9, 0, 0), .inl (1, 1, 0, 0)], [])], [], [9, 10], (0, 0), [])
def u_X1_isScoredOn_0 : List en_U := [
  (2, ([.inr (.inl 9), .inl (0, 9, 0, 0), .inl (0, 9, 0, 0)], []), [(0, 0), (1, 1), (2, 2)], (0, 0), [((-2), 2)], 22)]
def x_X1_isScoredOn_0 : en_Cx := ((en_KT, en_TY0, en_om0), en_FTX1, en_PTX1, [(47, true, 7, 0, 0, k_X1_scoreOn_0)], en_LTX1, en_LLX1, en_TTX1, en_ACX1)
def m_X1_isScoredOn_0 : en_Mx := (k_X1_isScoredOn_0, 1, 3, (0, 2), tb_X1_isScoredOn, [])
set_option maxRecDepth 100000 in
theorem ck_X1_isScoredOn_0 : en_all x_X1_isScoredOn_0 m_X1_isScoredOn_0 u_X1_isScoredOn_0 12 = true := by decide +kernel
theorem ct_X1_isScoredOn_0 {l : Launch} (hl : l.stackTraces = false) {PP : Int32 → Int32 → Prop} (hPP : en_P0 PP) (Ω : Nat → en_H → va_W → Prop) : en_Ctr l vwCl en_TY0 PP en_om0 Ω en_KT yX1_isScoredOn (Cond.code yX1_isScoredOn cX1_isScoredOn 3 (some .boolean) :: en_cw) (en_rm 1 (0, 0)) 0 k_X1_isScoredOn_0 :=
  en_main (X := x_X1_isScoredOn_0) (M := m_X1_isScoredOn_0) hPP en_f32_ok en_f64_ok hl (by decide +kernel) ⟨en_FTX1_ok, en_PTX1_ok, en_ac (⟨yX1_scoreOn, RX1, cX1_scoreOn, 2, (some .int), by decide, ct_X1_scoreOn_0 hl hPP Ω, fun _ => ⟨gc_RX1_47v, by decide, _, rfl, rfl⟩, fun h => Bool.noConfusion h⟩) en_an, en_LTX1_ok, en_LLX1_ok, en_TTX1_ok hl, ⟨cw256, cw147⟩, en_ACX1_ok⟩ de_X1_isScoredOn ck_X1_isScoredOn_0
def tb_X1_isTooLow : en_Tb := [
  (26, [(0, .iconst 0, 1), (1, .istore_n 2, 1), (2, .iload_n 2, 1), (3, .iload_n 1, 1), (4, .if_icmp .ge 24, 3), (7, .aload_n 0, 1), (8, .iload_n 2, 1), (9, .invokevirtual 51, 3), (12, .aload_n 0, 1), (13, .iload_n 2, 1), (14, .invokevirtual 47, 3), (17, .if_icmp .ge 5, 3), (20, .iconst 1, 1), (21, .ireturn, 1), (22, .iinc 2 1, 3), (25, .goto (-23), 3)]), 
  (30, [(28, .iconst 0, 1), (29, .ireturn, 1)])]
set_option maxRecDepth 40000 in
theorem de_X1_isTooLow : en_De tb_X1_isTooLow cX1_isTooLow := by
  unfold en_De
  decide +kernel
def k_X1_isTooLow_0 : en_K := (2, ([.inr (.inl 9), .inl (0, 9, 0, 0)], []), [([.inr (.inl 9), .inl (0, 9, 0, 0), .inl (0, 0, 0, 0)], []), ([.inr (.inl 9), .inl (1, 9, 0, 0), .inl (1, 1, 0, 0)], [])], [], [9, 10], (0, 0), [])
def u_X1_isTooLow_0 : List en_U := [
  (2, ([.inr (.inl 9), .inl (0, 9, 0, 0), .inl (0, 9, 0, 0)], []), [(0, 0), (1, 1), (2, 2)], (0, 0), [((-2), 2)], 22)]
def x_X1_isTooLow_0 : en_Cx := ((en_KT, en_TY0, en_om0), en_FTX1, en_PTX1, [(47, true, 7, 0, 0, k_X1_scoreOn_0), (51, true, 7, 0, 0, k_X1_writtenOn_0)], en_LTX1, en_LLX1, en_TTX1, en_ACX1)
def m_X1_isTooLow_0 : en_Mx := (k_X1_isTooLow_0, 1, 3, (0, 2), tb_X1_isTooLow, [])
set_option maxRecDepth 100000 in
theorem ck_X1_isTooLow_0 : en_all x_X1_isTooLow_0 m_X1_isTooLow_0 u_X1_isTooLow_0 15 = true := by decide +kernel
theorem ct_X1_isTooLow_0 {l : Launch} (hl : l.stackTraces = false) {PP : Int32 → Int32 → Prop} (hPP : en_P0 PP) (Ω : Nat → en_H → va_W → Prop) : en_Ctr l vwCl en_TY0 PP en_om0 Ω en_KT yX1_isTooLow (Cond.code yX1_isTooLow cX1_isTooLow 3 (some .boolean) :: en_cw) (en_rm 1 (0, 0)) 0 k_X1_isTooLow_0 :=
  en_main (X := x_X1_isTooLow_0) (M := m_X1_isTooLow_0) hPP en_f32_ok en_f64_ok hl (by decide +kernel) ⟨en_FTX1_ok, en_PTX1_ok, en_ac (⟨yX1_scoreOn, RX1, cX1_scoreOn, 2, (some .int), by decide, ct_X1_scoreOn_0 hl hPP Ω, fun _ => ⟨gc_RX1_47v, by decide, _, rfl, rfl⟩, fun h => Bool.noConfusion h⟩) (en_ac (⟨yX1_writtenOn, RX1, cX1_writtenOn, 2, (some .int), by decide, ct_X1_writtenOn_0 hl hPP Ω, fun _ => ⟨gc_RX1_51v, by decide, _, rfl, rfl⟩, fun h => Bool.noConfusion h⟩) en_an), en_LTX1_ok, en_LLX1_ok, en_TTX1_ok hl, ⟨cw256, cw147⟩, en_ACX1_ok⟩ de_X1_isTooLow ck_X1_isTooLow_0
def tb_X6_sign : en_Tb := [
  (30, [(0, .aload_n 0, 1), (1, .iload_n 1, 1), (2, .invokevirtual 127, 3), (5, .aload_n 0, 1), (6, .getfield 18, 3), (9, .iload_n 1, 1), (10, .aaload, 1), (11, .getfield 155, 3), (14, .astore_n 2, 1), (15, .aload_n 0, 1), (16, .invokevirtual 440, 3), (19, .ifCond .eq 17, 3), (22, .aload_n 2, 1), (23, .getfield 443, 3), (26, .ifCond .ne 10, 3), (29, .aload_n 2, 1)]), 
  (66, [(30, .getfield 419, 3), (33, .ifCond .eq 14, 3), (36, .new 74, 3), (39, .dup, 1), (40, .ldc_w 451, 3), (43, .invokespecial 78, 3), (46, .athrow, 1), (47, .aload_n 2, 1), (48, .aload_n 0, 1), (49, .getfield 62, 3), (52, .invokevirtual 453, 3), (55, .ifCond .ne 14, 3), (58, .new 177, 3), (61, .dup, 1), (62, .ldc_w 456, 3), (65, .invokespecial 181, 3)]), 
  (98, [(68, .athrow, 1), (69, .aload_n 2, 1), (70, .iconst 1, 1), (71, .putfield 443, 3), (74, .aload_n 2, 1), (75, .aload_n 2, 1), (76, .aload_n 0, 1), (77, .getfield 62, 3), (80, .invokevirtual 458, 3), (83, .putfield 419, 3), (86, .aload_n 2, 1), (87, .getfield 419, 3), (90, .ifCond .ne 7, 3), (93, .iconst 1, 1), (94, .goto 4, 3), (97, .iconst 0, 1)]), 
  (99, [(98, .ireturn, 1)])]
set_option maxRecDepth 40000 in
theorem de_X6_sign : en_De tb_X6_sign cX6_sign := by
  unfold en_De
  decide +kernel
def k_X6_sign_0 : en_K := (2, ([.inr (.inl 0), .inl ((-2147483648), 2147483647, 0, 0)], []), [([.inr (.inl 0), .inl (0, 5, 0, 0), .inl (0, 0, 0, 0)], []), ([.inr (.inl 0), .inl (0, 5, 0, 0), .inl (1, 1, 0, 0)], [])], [(9, 3), (9, 4)], [0, 2, 7, 9, 10], (2, 12), [2, 3, 4])
def u_X6_sign_0 : List en_U := []
def x_X6_sign_0 : en_Cx := ((en_KT, en_TY0, en_om0), en_FTX6, en_PTX6, [(127, true, 12, 4, 0, k_X6_needPlayer_0), (440, true, 12, 0, 0, k_X6_isRoundOver_0), (453, true, 7, 0, 1, k_X1_isScoredOn_0), (458, true, 7, 0, 1, k_X1_isTooLow_0)], en_LTX6, en_LLX6, en_TTX6, en_ACX6)
def m_X6_sign_0 : en_Mx := (k_X6_sign_0, 2, 3, (0, 2), tb_X6_sign, [])
set_option maxRecDepth 100000 in
theorem ck_X6_sign_0 : en_all x_X6_sign_0 m_X6_sign_0 u_X6_sign_0 41 = true := by decide +kernel
theorem ct_X6_sign_0 {l : Launch} (hl : l.stackTraces = false) {PP : Int32 → Int32 → Prop} (hPP : en_P0 PP) (Ω : Nat → en_H → va_W → Prop) : en_Ctr l vwCl en_TY0 PP en_om0 Ω en_KT yX6_sign (Cond.code yX6_sign cX6_sign 3 (some .boolean) :: en_cw) (en_rm 2 (2, 12)) 0 k_X6_sign_0 :=
  en_main (X := x_X6_sign_0) (M := m_X6_sign_0) hPP en_f32_ok en_f64_ok hl (by decide +kernel) ⟨en_FTX6_ok, en_PTX6_ok, en_ac (⟨yX6_needPlayer, RX6, cX6_needPlayer, 2, none, by decide, ct_X6_needPlayer_0 hl hPP Ω, fun _ => ⟨gc_RX6_127v, by decide, _, rfl, rfl⟩, fun h => Bool.noConfusion h⟩) (en_ac (⟨yX6_isRoundOver, RX6, cX6_isRoundOver, 1, (some .boolean), by decide, ct_X6_isRoundOver_0 hl hPP Ω, fun _ => ⟨gc_RX6_440v, by decide, _, rfl, rfl⟩, fun h => Bool.noConfusion h⟩) (en_ac (⟨yX1_isScoredOn, RX1, cX1_isScoredOn, 3, (some .boolean), by decide, ct_X1_isScoredOn_0 hl hPP Ω, fun _ => ⟨gc_RX6_453v, by decide, _, rfl, rfl⟩, fun h => Bool.noConfusion h⟩) (en_ac (⟨yX1_isTooLow, RX1, cX1_isTooLow, 3, (some .boolean), by decide, ct_X1_isTooLow_0 hl hPP Ω, fun _ => ⟨gc_RX6_458v, by decide, _, rfl, rfl⟩, fun h => Bool.noConfusion h⟩) en_an))), en_LTX6_ok, en_LLX6_ok, en_TTX6_ok hl, ⟨cw256, cw147⟩, en_ACX6_ok⟩ de_X6_sign ck_X6_sign_0
def tb_X6_skins : en_Tb := [
  (15, [(0, .aload_n 0, 1), (1, .iload_n 1, 1), (2, .invokevirtual 127, 3), (5, .aload_n 0, 1), (6, .invokevirtual 478, 3), (9, .aload_n 0, 1), (10, .iload_n 1, 1), (11, .invokevirtual 493, 3), (14, .ireturn, 1)])]
set_option maxRecDepth 40000 in
theorem de_X6_skins : en_De tb_X6_skins cX6_skins := by
  unfold en_De
  decide +kernel
def k_X6_skins_0 : en_K := (2, ([.inr (.inl 0), .inl ((-2147483648), 2147483647, 0, 0)], []), [([.inr (.inl 0), .inl (0, 5, 0, 0), .inl ((-2147483648), 2147483647, 0, 0)], [])], [], [0, 1, 2, 5, 7, 9, 10], (2, 12), [3, 4])
def u_X6_skins_0 : List en_U := []
def x_X6_skins_0 : en_Cx := ((en_KT, en_TY0, en_om0), en_FTX6, en_PTX6, [(127, true, 12, 4, 0, k_X6_needPlayer_0), (478, true, 12, 4, 1, k_X6_needRoundOver_0), (493, true, 12, 0, 3, k_X6_skinsOf_0)], en_LTX6, en_LLX6, en_TTX6, en_ACX6)
def m_X6_skins_0 : en_Mx := (k_X6_skins_0, 4, 2, (0, 0), tb_X6_skins, [])
set_option maxRecDepth 100000 in
theorem ck_X6_skins_0 : en_all x_X6_skins_0 m_X6_skins_0 u_X6_skins_0 12 = true := by decide +kernel
theorem ct_X6_skins_0 {l : Launch} (hl : l.stackTraces = false) {PP : Int32 → Int32 → Prop} (hPP : en_P0 PP) (Ω : Nat → en_H → va_W → Prop) : en_Ctr l vwCl en_TY0 PP en_om0 Ω en_KT yX6_skins (Cond.code yX6_skins cX6_skins 2 (some .int) :: en_cw) (en_rm 4 (2, 12)) 0 k_X6_skins_0 :=
  en_main (X := x_X6_skins_0) (M := m_X6_skins_0) hPP en_f32_ok en_f64_ok hl (by decide +kernel) ⟨en_FTX6_ok, en_PTX6_ok, en_ac (⟨yX6_needPlayer, RX6, cX6_needPlayer, 2, none, by decide, ct_X6_needPlayer_0 hl hPP Ω, fun _ => ⟨gc_RX6_127v, by decide, _, rfl, rfl⟩, fun h => Bool.noConfusion h⟩) (en_ac (⟨yX6_needRoundOver, RX6, cX6_needRoundOver, 1, none, by decide, ct_X6_needRoundOver_0 hl hPP Ω, fun _ => ⟨gc_RX6_478v, by decide, _, rfl, rfl⟩, fun h => Bool.noConfusion h⟩) (en_ac (⟨yX6_skinsOf, RX6, cX6_skinsOf, 6, (some .int), by decide, ct_X6_skinsOf_0 hl hPP Ω, fun _ => ⟨gc_RX6_493v, by decide, _, rfl, rfl⟩, fun h => Bool.noConfusion h⟩) en_an)), en_LTX6_ok, en_LLX6_ok, en_TTX6_ok hl, ⟨cw256, cw147⟩, en_ACX6_ok⟩ de_X6_skins ck_X6_skins_0
def tb_J9_max_7cf53 : en_Tb := [
  (11, [(0, .iload_n 0, 1), (1, .iload_n 1, 1), (2, .if_icmp .lt 7, 3), (5, .iload_n 0, 1), (6, .goto 4, 3), (9, .iload_n 1, 1), (10, .ireturn, 1)])]
set_option maxRecDepth 40000 in
theorem de_J9_max_7cf53 : en_De tb_J9_max_7cf53 cJ9_max_7cf53 := by
  unfold en_De
  decide +kernel
def k_J9_max_7cf53_0 : en_K := (2, ([.inl ((-2147483648), 2147483647, 0, 0), .inl ((-2147483648), 2147483647, 0, 0)], []), [([.inl ((-2147483648), 2147483647, 0, 0), .inl ((-2147483648), 2147483647, 0, 0), .inl ((-2147483648), 2147483647, 0, 0)], [])], [], [], (0, 0), [])
def u_J9_max_7cf53_0 : List en_U := []
def x_J9_max_7cf53_0 : en_Cx := ((en_KT, en_TY0, en_om0), en_FTJ9, en_PTJ9, [], en_LTJ9, en_LLJ9, en_TTJ9, en_ACJ9)
def m_J9_max_7cf53_0 : en_Mx := (k_J9_max_7cf53_0, 0, 2, (0, 0), tb_J9_max_7cf53, [])
set_option maxRecDepth 100000 in
theorem ck_J9_max_7cf53_0 : en_all x_J9_max_7cf53_0 m_J9_max_7cf53_0 u_J9_max_7cf53_0 9 = true := by decide +kernel
theorem ct_J9_max_7cf53_0 {l : Launch} (hl : l.stackTraces = false) {PP : Int32 → Int32 → Prop} (hPP : en_P0 PP) (Ω : Nat → en_H → va_W → Prop) : en_Ctr l vwCl en_TY0 PP en_om0 Ω en_KT yJ9_max_7cf53 (Cond.code yJ9_max_7cf53 cJ9_max_7cf53 2 (some .int) :: en_cw) (en_rm 0 (0, 0)) 0 k_J9_max_7cf53_0 :=
  en_main (X := x_J9_max_7cf53_0) (M := m_J9_max_7cf53_0) hPP en_f32_ok en_f64_ok hl (by decide +kernel) ⟨en_FTJ9_ok, en_PTJ9_ok, en_an, en_LTJ9_ok, en_LLJ9_ok, en_TTJ9_ok hl, ⟨cw256, cw147⟩, en_ACJ9_ok⟩ de_J9_max_7cf53 ck_J9_max_7cf53_0
def tb_X6_stableford : en_Tb := [
  (24, [(0, .aload_n 0, 1), (1, .iload_n 1, 1), (2, .invokevirtual 127, 3), (5, .iconst 0, 1), (6, .istore_n 2, 1), (7, .iconst 0, 1), (8, .istore_n 3, 1), (9, .iload_n 3, 1), (10, .aload_n 0, 1), (11, .getfield 62, 3), (14, .if_icmp .ge 50, 3), (17, .aload_n 0, 1), (18, .getfield 18, 3), (21, .iload_n 1, 1), (22, .aaload, 1), (23, .getfield 155, 3)]), 
  (50, [(26, .iload_n 3, 1), (27, .invokevirtual 469, 3), (30, .ifCond .eq 28, 3), (33, .iload_n 2, 1), (34, .iconst 0, 1), (35, .iconst 2, 1), (36, .aload_n 0, 1), (37, .getfield 11, 3), (40, .iload_n 3, 1), (41, .aaload, 1), (42, .getfield 79, 3), (45, .iadd, 1), (46, .aload_n 0, 1), (47, .iload_n 1, 1), (48, .iload_n 3, 1), (49, .invokevirtual 472, 3)]), 
  (66, [(52, .isub, 1), (53, .invokestatic 475, 3), (56, .iadd, 1), (57, .istore_n 2, 1), (58, .iinc 3 1, 3), (61, .goto (-52), 3), (64, .iload_n 2, 1), (65, .ireturn, 1)])]
set_option maxRecDepth 40000 in
theorem de_X6_stableford : en_De tb_X6_stableford cX6_stableford := by
  unfold en_De
  decide +kernel
def k_X6_stableford_0 : en_K := (2, ([.inr (.inl 0), .inl ((-2147483648), 2147483647, 0, 0)], []), [([.inr (.inl 0), .inl (0, 5, 0, 0), .inl ((-2147483648), 2147483647, 0, 0)], [])], [], [0, 1, 2, 5, 7, 9, 10], (1, 6), [3])
def u_X6_stableford_0 : List en_U := [
  (9, ([.inr (.inl 0), .inl (0, 5, 0, 0), .inl (0, 9, 0, 0), .inl ((-2147483648), 2147483647, 0, 0)], []), [(0, 0), (1, 1), (3, 2), (2, 3)], (1, 6), [((-2), 2)], 22)]
def x_X6_stableford_0 : en_Cx := ((en_KT, en_TY0, en_om0), en_FTX6, en_PTX6, [(127, true, 12, 4, 0, k_X6_needPlayer_0), (469, true, 7, 0, 0, k_X1_writtenOn_0), (472, true, 12, 0, 1, k_X6_netScore_0), (475, false, 0, 0, 0, k_J9_max_7cf53_0)], en_LTX6, en_LLX6, en_TTX6, en_ACX6)
def m_X6_stableford_0 : en_Mx := (k_X6_stableford_0, 2, 4, (0, 0), tb_X6_stableford, [])
set_option maxRecDepth 100000 in
theorem ck_X6_stableford_0 : en_all x_X6_stableford_0 m_X6_stableford_0 u_X6_stableford_0 34 = true := by decide +kernel
theorem ct_X6_stableford_0 {l : Launch} (hl : l.stackTraces = false) {PP : Int32 → Int32 → Prop} (hPP : en_P0 PP) (Ω : Nat → en_H → va_W → Prop) : en_Ctr l vwCl en_TY0 PP en_om0 Ω en_KT yX6_stableford (Cond.code yX6_stableford cX6_stableford 4 (some .int) :: en_cw) (en_rm 2 (1, 6)) 0 k_X6_stableford_0 :=
  en_main (X := x_X6_stableford_0) (M := m_X6_stableford_0) hPP en_f32_ok en_f64_ok hl (by decide +kernel) ⟨en_FTX6_ok, en_PTX6_ok, en_ac (⟨yX6_needPlayer, RX6, cX6_needPlayer, 2, none, by decide, ct_X6_needPlayer_0 hl hPP Ω, fun _ => ⟨gc_RX6_127v, by decide, _, rfl, rfl⟩, fun h => Bool.noConfusion h⟩) (en_ac (⟨yX1_writtenOn, RX1, cX1_writtenOn, 2, (some .int), by decide, ct_X1_writtenOn_0 hl hPP Ω, fun _ => ⟨gc_RX6_469v, by decide, _, rfl, rfl⟩, fun h => Bool.noConfusion h⟩) (en_ac (⟨yX6_netScore, RX6, cX6_netScore, 3, (some .int), by decide, ct_X6_netScore_0 hl hPP Ω, fun _ => ⟨gc_RX6_472v, by decide, _, rfl, rfl⟩, fun h => Bool.noConfusion h⟩) (en_ac (⟨yJ9_max_7cf53, RJ9, cJ9_max_7cf53, 2, (some .int), by decide, ct_J9_max_7cf53_0 hl hPP Ω, fun h => Bool.noConfusion h, fun _ => gc_RX6_475s⟩) en_an))), en_LTX6_ok, en_LLX6_ok, en_TTX6_ok hl, ⟨cw256, cw147⟩, en_ACX6_ok⟩ de_X6_stableford ck_X6_stableford_0
def tb_X6_state : en_Tb := [
  (22, [(0, .aload_n 0, 1), (1, .iload_n 1, 1), (2, .invokevirtual 127, 3), (5, .aload_n 0, 1), (6, .invokevirtual 167, 3), (9, .aload_n 0, 1), (10, .getfield 18, 3), (13, .iload_n 1, 1), (14, .aaload, 1), (15, .getfield 185, 3), (18, .getfield 205, 3), (21, .ireturn, 1)])]
set_option maxRecDepth 40000 in
theorem de_X6_state : en_De tb_X6_state cX6_state := by
  unfold en_De
  decide +kernel
def k_X6_state_0 : en_K := (2, ([.inr (.inl 0), .inl ((-2147483648), 2147483647, 0, 0)], []), [([.inr (.inl 0), .inl (0, 5, 0, 0), .inl (0, 65535, 0, 0)], [])], [], [0, 2, 7, 8], (2, 12), [1, 3])
def u_X6_state_0 : List en_U := []
def x_X6_state_0 : en_Cx := ((en_KT, en_TY0, en_om0), en_FTX6, en_PTX6, [(127, true, 12, 4, 0, k_X6_needPlayer_0), (167, true, 12, 4, 0, k_X6_needRound_0)], en_LTX6, en_LLX6, en_TTX6, en_ACX6)
def m_X6_state_0 : en_Mx := (k_X6_state_0, 1, 2, (0, 1), tb_X6_state, [])
set_option maxRecDepth 100000 in
theorem ck_X6_state_0 : en_all x_X6_state_0 m_X6_state_0 u_X6_state_0 15 = true := by decide +kernel
theorem ct_X6_state_0 {l : Launch} (hl : l.stackTraces = false) {PP : Int32 → Int32 → Prop} (hPP : en_P0 PP) (Ω : Nat → en_H → va_W → Prop) : en_Ctr l vwCl en_TY0 PP en_om0 Ω en_KT yX6_state (Cond.code yX6_state cX6_state 2 (some .char) :: en_cw) (en_rm 1 (2, 12)) 0 k_X6_state_0 :=
  en_main (X := x_X6_state_0) (M := m_X6_state_0) hPP en_f32_ok en_f64_ok hl (by decide +kernel) ⟨en_FTX6_ok, en_PTX6_ok, en_ac (⟨yX6_needPlayer, RX6, cX6_needPlayer, 2, none, by decide, ct_X6_needPlayer_0 hl hPP Ω, fun _ => ⟨gc_RX6_127v, by decide, _, rfl, rfl⟩, fun h => Bool.noConfusion h⟩) (en_ac (⟨yX6_needRound, RX6, cX6_needRound, 1, none, by decide, ct_X6_needRound_0 hl hPP Ω, fun _ => ⟨gc_RX6_167v, by decide, _, rfl, rfl⟩, fun h => Bool.noConfusion h⟩) en_an), en_LTX6_ok, en_LLX6_ok, en_TTX6_ok hl, ⟨cw256, cw147⟩, en_ACX6_ok⟩ de_X6_state ck_X6_state_0
