def tb_X6_isOut : en_Tb := [
  (18, [(0, .aload_n 0, 1), (1, .iload_n 1, 1), (2, .invokevirtual 127, 3), (5, .aload_n 0, 1), (6, .getfield 18, 3), (9, .iload_n 1, 1), (10, .aaload, 1), (11, .getfield 155, 3), (14, .getfield 419, 3), (17, .ireturn, 1)])]
set_option maxRecDepth 40000 in
theorem de_X6_isOut : en_De tb_X6_isOut cX6_isOut := by
  unfold en_De
  decide +kernel
def k_X6_isOut_0 : en_K := (2, ([.inr (.inl 0), .inl ((-2147483648), 2147483647, 0, 0)], []), [([.inr (.inl 0), .inl (0, 5, 0, 0), .inl (0, 1, 0, 0)], [])], [], [0, 2, 7, 9], (1, 6), [3])
def u_X6_isOut_0 : List en_U := []
def x_X6_isOut_0 : en_Cx := ((en_KT, en_TY0, en_om0), en_FTX6, en_PTX6, [(127, true, 12, 4, 0, k_X6_needPlayer_0)], en_LTX6, en_LLX6, en_TTX6, en_ACX6)
def m_X6_isOut_0 : en_Mx := (k_X6_isOut_0, 1, 2, (0, 2), tb_X6_isOut, [])
set_option maxRecDepth 100000 in
theorem ck_X6_isOut_0 : en_all x_X6_isOut_0 m_X6_isOut_0 u_X6_isOut_0 13 = true := by decide +kernel
theorem ct_X6_isOut_0 {l : Launch} (hl : l.stackTraces = false) {PP : Int32 → Int32 → Prop} (hPP : en_P0 PP) (Ω : Nat → en_H → va_W → Prop) : en_Ctr l vwCl en_TY0 PP en_om0 Ω en_KT yX6_isOut (Cond.code yX6_isOut cX6_isOut 2 (some .boolean) :: en_cw) (en_rm 1 (1, 6)) 0 k_X6_isOut_0 :=
  en_main (X := x_X6_isOut_0) (M := m_X6_isOut_0) hPP en_f32_ok en_f64_ok hl (by decide +kernel) ⟨en_FTX6_ok, en_PTX6_ok, en_ac (⟨yX6_needPlayer, RX6, cX6_needPlayer, 2, none, by decide, ct_X6_needPlayer_0 hl hPP Ω, fun _ => ⟨gc_RX6_127v, by decide, _, rfl, rfl⟩, fun h => Bool.noConfusion h⟩) en_an, en_LTX6_ok, en_LLX6_ok, en_TTX6_ok hl, ⟨cw256, cw147⟩, en_ACX6_ok⟩ de_X6_isOut ck_X6_isOut_0
def tb_X2_howManyCount : en_Tb := [
  (31, [(0, .aload_n 0, 1), (1, .getfield 15, 3), (4, .bipush 19, 2), (6, .if_icmp .lt 11, 3), (9, .aload_n 0, 1), (10, .getfield 15, 3), (13, .bipush 12, 2), (15, .isub, 1), (16, .ireturn, 1), (17, .aload_n 0, 1), (18, .getfield 15, 3), (21, .bipush 15, 2), (23, .if_icmp .lt 19, 3), (26, .aload_n 0, 1), (27, .getfield 15, 3), (30, .bipush 17, 2)]), 
  (65, [(32, .if_icmp .lt 8, 3), (35, .bipush 6, 2), (37, .goto 4, 3), (40, .iconst 5, 1), (41, .ireturn, 1), (42, .aload_n 0, 1), (43, .getfield 15, 3), (46, .bipush 9, 2), (48, .if_icmp .lt 18, 3), (51, .aload_n 0, 1), (52, .getfield 15, 3), (55, .bipush 12, 2), (57, .if_icmp .lt 7, 3), (60, .iconst 4, 1), (61, .goto 4, 3), (64, .iconst 3, 1)]), 
  (81, [(65, .ireturn, 1), (66, .aload_n 0, 1), (67, .getfield 15, 3), (70, .bipush 6, 2), (72, .if_icmp .lt 7, 3), (75, .iconst 2, 1), (76, .goto 4, 3), (79, .iconst 1, 1), (80, .ireturn, 1)])]
set_option maxRecDepth 40000 in
theorem de_X2_howManyCount : en_De tb_X2_howManyCount cX2_howManyCount := by
  unfold en_De
  decide +kernel
def k_X2_howManyCount_0 : en_K := (1, ([.inr (.inl 11)], []), [([.inr (.inl 11), .inl (1, 8, 0, 0)], [])], [], [11], (0, 0), [])
def u_X2_howManyCount_0 : List en_U := []
def x_X2_howManyCount_0 : en_Cx := ((en_KT, en_TY0, en_om0), en_FTX2, en_PTX2, [], en_LTX2, en_LLX2, en_TTX2, en_ACX2)
def m_X2_howManyCount_0 : en_Mx := (k_X2_howManyCount_0, 0, 1, (0, 0), tb_X2_howManyCount, [])
set_option maxRecDepth 100000 in
theorem ck_X2_howManyCount_0 : en_all x_X2_howManyCount_0 m_X2_howManyCount_0 u_X2_howManyCount_0 22 = true := by decide +kernel
theorem ct_X2_howManyCount_0 {l : Launch} (hl : l.stackTraces = false) {PP : Int32 → Int32 → Prop} (hPP : en_P0 PP) (Ω : Nat → en_H → va_W → Prop) : en_Ctr l vwCl en_TY0 PP en_om0 Ω en_KT yX2_howManyCount (Cond.code yX2_howManyCount cX2_howManyCount 1 (some .int) :: en_cw) (en_rm 0 (0, 0)) 0 k_X2_howManyCount_0 :=
  en_main (X := x_X2_howManyCount_0) (M := m_X2_howManyCount_0) hPP en_f32_ok en_f64_ok hl (by decide +kernel) ⟨en_FTX2_ok, en_PTX2_ok, en_an, en_LTX2_ok, en_LLX2_ok, en_TTX2_ok hl, ⟨cw256, cw147⟩, en_ACX2_ok⟩ de_X2_howManyCount ck_X2_howManyCount_0
def tb_X2_howManyAhead : en_Tb := [
  (26, [(0, .iconst 0, 1), (1, .istore_n 2, 1), (2, .iconst 0, 1), (3, .istore_n 3, 1), (4, .iload_n 3, 1), (5, .aload_n 0, 1), (6, .getfield 15, 3), (9, .if_icmp .ge 42, 3), (12, .aload_n 0, 1), (13, .iload_n 3, 1), (14, .invokevirtual 55, 3), (17, .aload_n 0, 1), (18, .iload_n 1, 1), (19, .invokevirtual 55, 3), (22, .invokestatic 61, 3), (25, .istore 4, 2)]), 
  (53, [(27, .iload 4, 2), (29, .ifCond .lt 13, 3), (32, .iload 4, 2), (34, .ifCond .ne 11, 3), (37, .iload_n 3, 1), (38, .iload_n 1, 1), (39, .if_icmp .ge 6, 3), (42, .iinc 2 1, 3), (45, .iinc 3 1, 3), (48, .goto (-44), 3), (51, .iload_n 2, 1), (52, .ireturn, 1)])]
set_option maxRecDepth 40000 in
theorem de_X2_howManyAhead : en_De tb_X2_howManyAhead cX2_howManyAhead := by
  unfold en_De
  decide +kernel
def k_X2_howManyAhead_0 : en_K := (2, ([.inr (.inl 11), .inl ((-2147483648), 2147483647, 0, 0)], []), [([.inr (.inl 11), .inl ((-2147483648), 2147483647, 0, 0), .inl ((-2147483648), 2147483647, 0, 0)], [])], [], [11, 12], (0, 0), [])
def u_X2_howManyAhead_0 : List en_U := [
  (4, ([.inr (.inl 11), .inl ((-2147483648), 2147483647, 0, 0), .inl (0, 20, 0, 0), .inl ((-2147483648), 2147483647, 0, 0)], []), [(0, 0), (1, 1), (3, 2), (2, 3)], (0, 0), [((-2), 2)], 44)]
def x_X2_howManyAhead_0 : en_Cx := ((en_KT, en_TY0, en_om0), en_FTX2, en_PTX2, [(55, true, 8, 0, 0, k_X2_differenceAt_0), (61, false, 0, 0, 0, k_J6_compare_7cf53_0)], en_LTX2, en_LLX2, en_TTX2, en_ACX2)
def m_X2_howManyAhead_0 : en_Mx := (k_X2_howManyAhead_0, 1, 5, (0, 0), tb_X2_howManyAhead, [])
set_option maxRecDepth 100000 in
theorem ck_X2_howManyAhead_0 : en_all x_X2_howManyAhead_0 m_X2_howManyAhead_0 u_X2_howManyAhead_0 25 = true := by decide +kernel
theorem ct_X2_howManyAhead_0 {l : Launch} (hl : l.stackTraces = false) {PP : Int32 → Int32 → Prop} (hPP : en_P0 PP) (Ω : Nat → en_H → va_W → Prop) : en_Ctr l vwCl en_TY0 PP en_om0 Ω en_KT yX2_howManyAhead (Cond.code yX2_howManyAhead cX2_howManyAhead 5 (some .int) :: en_cw) (en_rm 1 (0, 0)) 0 k_X2_howManyAhead_0 :=
  en_main (X := x_X2_howManyAhead_0) (M := m_X2_howManyAhead_0) hPP en_f32_ok en_f64_ok hl (by decide +kernel) ⟨en_FTX2_ok, en_PTX2_ok, en_ac (⟨yX2_differenceAt, RX2, cX2_differenceAt, 2, (some .int), by decide, ct_X2_differenceAt_0 hl hPP Ω, fun _ => ⟨gc_RX2_55v, by decide, _, rfl, rfl⟩, fun h => Bool.noConfusion h⟩) (en_ac (⟨yJ6_compare_7cf53, RJ6, cJ6_compare_7cf53, 2, (some .int), by decide, ct_J6_compare_7cf53_0 hl hPP Ω, fun h => Bool.noConfusion h, fun _ => gc_RX2_61s⟩) en_an), en_LTX2_ok, en_LLX2_ok, en_TTX2_ok hl, ⟨cw256, cw147⟩, en_ACX2_ok⟩ de_X2_howManyAhead ck_X2_howManyAhead_0
def tb_J9_floorDiv_7cf53 : en_Tb := [
  (20, [(0, .iload_n 0, 1), (1, .iload_n 1, 1), (2, .idiv, 1), (3, .istore_n 2, 1), (4, .iload_n 0, 1), (5, .iload_n 1, 1), (6, .ixor, 1), (7, .ifCond .ge 14, 3), (10, .iload_n 2, 1), (11, .iload_n 1, 1), (12, .imul, 1), (13, .iload_n 0, 1), (14, .if_icmp .eq 7, 3), (17, .iload_n 2, 1), (18, .iconst 1, 1), (19, .isub, 1)]), 
  (23, [(20, .ireturn, 1), (21, .iload_n 2, 1), (22, .ireturn, 1)])]
set_option maxRecDepth 40000 in
theorem de_J9_floorDiv_7cf53 : en_De tb_J9_floorDiv_7cf53 cJ9_floorDiv_7cf53 := by
  unfold en_De
  decide +kernel
def k_J9_floorDiv_7cf53_0 : en_K := (2, ([.inl ((-2147483648), 2147483647, 0, 0), .inl (1, 155, 0, 0)], []), [([.inl ((-2147483648), 2147483647, 0, 0), .inl (1, 155, 0, 0), .inl ((-2147483648), 2147483647, 0, 0)], [])], [], [], (0, 0), [])
def u_J9_floorDiv_7cf53_0 : List en_U := []
def x_J9_floorDiv_7cf53_0 : en_Cx := ((en_KT, en_TY0, en_om0), en_FTJ9, en_PTJ9, [], en_LTJ9, en_LLJ9, en_TTJ9, en_ACJ9)
def m_J9_floorDiv_7cf53_0 : en_Mx := (k_J9_floorDiv_7cf53_0, 0, 3, (0, 0), tb_J9_floorDiv_7cf53, [])
set_option maxRecDepth 100000 in
theorem ck_J9_floorDiv_7cf53_0 : en_all x_J9_floorDiv_7cf53_0 m_J9_floorDiv_7cf53_0 u_J9_floorDiv_7cf53_0 20 = true := by decide +kernel
theorem ct_J9_floorDiv_7cf53_0 {l : Launch} (hl : l.stackTraces = false) {PP : Int32 → Int32 → Prop} (hPP : en_P0 PP) (Ω : Nat → en_H → va_W → Prop) : en_Ctr l vwCl en_TY0 PP en_om0 Ω en_KT yJ9_floorDiv_7cf53 (Cond.code yJ9_floorDiv_7cf53 cJ9_floorDiv_7cf53 3 (some .int) :: en_cw) (en_rm 0 (0, 0)) 0 k_J9_floorDiv_7cf53_0 :=
  en_main (X := x_J9_floorDiv_7cf53_0) (M := m_J9_floorDiv_7cf53_0) hPP en_f32_ok en_f64_ok hl (by decide +kernel) ⟨en_FTJ9_ok, en_PTJ9_ok, en_an, en_LTJ9_ok, en_LLJ9_ok, en_TTJ9_ok hl, ⟨cw256, cw147⟩, en_ACJ9_ok⟩ de_J9_floorDiv_7cf53 ck_J9_floorDiv_7cf53_0
def tb_X2_mean : en_Tb := [
  (22, [(0, .aload_n 0, 1), (1, .invokevirtual 49, 3), (4, .istore_n 1, 1), (5, .iload_n 1, 1), (6, .iconst 1, 1), (7, .if_icmp .ge 5, 3), (10, .iconst 0, 1), (11, .ireturn, 1), (12, .iconst 0, 1), (13, .istore_n 2, 1), (14, .iconst 0, 1), (15, .istore_n 3, 1), (16, .iload_n 3, 1), (17, .aload_n 0, 1), (18, .getfield 15, 3), (21, .if_icmp .ge 26, 3)]), 
  (50, [(24, .aload_n 0, 1), (25, .iload_n 3, 1), (26, .invokevirtual 52, 3), (29, .iload_n 1, 1), (30, .if_icmp .ge 11, 3), (33, .iload_n 2, 1), (34, .aload_n 0, 1), (35, .iload_n 3, 1), (36, .invokevirtual 55, 3), (39, .iadd, 1), (40, .istore_n 2, 1), (41, .iinc 3 1, 3), (44, .goto (-28), 3), (47, .iload_n 2, 1), (48, .iload_n 1, 1), (49, .invokestatic 58, 3)]), 
  (53, [(52, .ireturn, 1)])]
set_option maxRecDepth 40000 in
theorem de_X2_mean : en_De tb_X2_mean cX2_mean := by
  unfold en_De
  decide +kernel
def k_X2_mean_0 : en_K := (1, ([.inr (.inl 11)], []), [([.inr (.inl 11), .inl ((-2147483648), 2147483647, 0, 0)], [])], [], [11, 12], (0, 0), [])
def u_X2_mean_0 : List en_U := [
  (16, ([.inr (.inl 11), .inl (0, 20, 0, 0), .inl ((-2147483648), 2147483647, 0, 0), .inl (1, 8, 0, 0)], []), [(0, 0), (3, 1), (2, 2), (1, 3)], (0, 0), [((-2), 1)], 44)]
def x_X2_mean_0 : en_Cx := ((en_KT, en_TY0, en_om0), en_FTX2, en_PTX2, [(49, true, 8, 0, 0, k_X2_howManyCount_0), (52, true, 8, 0, 1, k_X2_howManyAhead_0), (55, true, 8, 0, 0, k_X2_differenceAt_0), (58, false, 0, 0, 0, k_J9_floorDiv_7cf53_0)], en_LTX2, en_LLX2, en_TTX2, en_ACX2)
def m_X2_mean_0 : en_Mx := (k_X2_mean_0, 2, 4, (0, 0), tb_X2_mean, [])
set_option maxRecDepth 100000 in
theorem ck_X2_mean_0 : en_all x_X2_mean_0 m_X2_mean_0 u_X2_mean_0 20 = true := by decide +kernel
theorem ct_X2_mean_0 {l : Launch} (hl : l.stackTraces = false) {PP : Int32 → Int32 → Prop} (hPP : en_P0 PP) (Ω : Nat → en_H → va_W → Prop) : en_Ctr l vwCl en_TY0 PP en_om0 Ω en_KT yX2_mean (Cond.code yX2_mean cX2_mean 4 (some .int) :: en_cw) (en_rm 2 (0, 0)) 0 k_X2_mean_0 :=
  en_main (X := x_X2_mean_0) (M := m_X2_mean_0) hPP en_f32_ok en_f64_ok hl (by decide +kernel) ⟨en_FTX2_ok, en_PTX2_ok, en_ac (⟨yX2_howManyCount, RX2, cX2_howManyCount, 1, (some .int), by decide, ct_X2_howManyCount_0 hl hPP Ω, fun _ => ⟨gc_RX2_49v, by decide, _, rfl, rfl⟩, fun h => Bool.noConfusion h⟩) (en_ac (⟨yX2_howManyAhead, RX2, cX2_howManyAhead, 5, (some .int), by decide, ct_X2_howManyAhead_0 hl hPP Ω, fun _ => ⟨gc_RX2_52v, by decide, _, rfl, rfl⟩, fun h => Bool.noConfusion h⟩) (en_ac (⟨yX2_differenceAt, RX2, cX2_differenceAt, 2, (some .int), by decide, ct_X2_differenceAt_0 hl hPP Ω, fun _ => ⟨gc_RX2_55v, by decide, _, rfl, rfl⟩, fun h => Bool.noConfusion h⟩) (en_ac (⟨yJ9_floorDiv_7cf53, RJ9, cJ9_floorDiv_7cf53, 3, (some .int), by decide, ct_J9_floorDiv_7cf53_0 hl hPP Ω, fun h => Bool.noConfusion h, fun _ => gc_RX2_58s⟩) en_an))), en_LTX2_ok, en_LLX2_ok, en_TTX2_ok hl, ⟨cw256, cw147⟩, en_ACX2_ok⟩ de_X2_mean ck_X2_mean_0
def tb_J9_min_7cf53 : en_Tb := [
  (11, [(0, .iload_n 0, 1), (1, .iload_n 1, 1), (2, .if_icmp .gt 7, 3), (5, .iload_n 0, 1), (6, .goto 4, 3), (9, .iload_n 1, 1), (10, .ireturn, 1)])]
set_option maxRecDepth 40000 in
theorem de_J9_min_7cf53 : en_De tb_J9_min_7cf53 cJ9_min_7cf53 := by
  unfold en_De
  decide +kernel
def k_J9_min_7cf53_0 : en_K := (2, ([.inl ((-2147483648), 2147483647, 0, 0), .inl ((-2147483648), 2147483647, 0, 0)], []), [([.inl ((-2147483648), 2147483647, 0, 0), .inl ((-2147483648), 2147483647, 0, 0), .inl ((-2147483648), 2147483647, 0, 0)], [])], [], [], (0, 0), [])
def u_J9_min_7cf53_0 : List en_U := []
def x_J9_min_7cf53_0 : en_Cx := ((en_KT, en_TY0, en_om0), en_FTJ9, en_PTJ9, [], en_LTJ9, en_LLJ9, en_TTJ9, en_ACJ9)
def m_J9_min_7cf53_0 : en_Mx := (k_J9_min_7cf53_0, 0, 2, (0, 0), tb_J9_min_7cf53, [])
set_option maxRecDepth 100000 in
theorem ck_J9_min_7cf53_0 : en_all x_J9_min_7cf53_0 m_J9_min_7cf53_0 u_J9_min_7cf53_0 9 = true := by decide +kernel
theorem ct_J9_min_7cf53_0 {l : Launch} (hl : l.stackTraces = false) {PP : Int32 → Int32 → Prop} (hPP : en_P0 PP) (Ω : Nat → en_H → va_W → Prop) : en_Ctr l vwCl en_TY0 PP en_om0 Ω en_KT yJ9_min_7cf53 (Cond.code yJ9_min_7cf53 cJ9_min_7cf53 2 (some .int) :: en_cw) (en_rm 0 (0, 0)) 0 k_J9_min_7cf53_0 :=
  en_main (X := x_J9_min_7cf53_0) (M := m_J9_min_7cf53_0) hPP en_f32_ok en_f64_ok hl (by decide +kernel) ⟨en_FTJ9_ok, en_PTJ9_ok, en_an, en_LTJ9_ok, en_LLJ9_ok, en_TTJ9_ok hl, ⟨cw256, cw147⟩, en_ACJ9_ok⟩ de_J9_min_7cf53 ck_J9_min_7cf53_0
def tb_X2_bounded : en_Tb := [
  (25, [(0, .iload_n 1, 1), (1, .aload_n 0, 1), (2, .getfield 30, 3), (5, .isub, 1), (6, .istore_n 2, 1), (7, .iload_n 2, 1), (8, .bipush 30, 2), (10, .if_icmp .gt 5, 3), (13, .iload_n 1, 1), (14, .ireturn, 1), (15, .aload_n 0, 1), (16, .getfield 30, 3), (19, .bipush 50, 2), (21, .bipush 30, 2), (23, .iload_n 2, 1), (24, .bipush 30, 2)]), 
  (35, [(26, .isub, 1), (27, .iconst 2, 1), (28, .idiv, 1), (29, .iadd, 1), (30, .invokestatic 43, 3), (33, .iadd, 1), (34, .ireturn, 1)])]
set_option maxRecDepth 40000 in
theorem de_X2_bounded : en_De tb_X2_bounded cX2_bounded := by
  unfold en_De
  decide +kernel
def k_X2_bounded_0 : en_K := (2, ([.inr (.inl 11), .inl ((-2147483648), 2147483647, 0, 0)], []), [([.inr (.inl 11), .inl ((-2147483648), 2147483647, 0, 0), .inl ((-2147483648), 2147483647, 0, 0)], [])], [], [11], (0, 0), [])
def u_X2_bounded_0 : List en_U := []
def x_X2_bounded_0 : en_Cx := ((en_KT, en_TY0, en_om0), en_FTX2, en_PTX2, [(43, false, 0, 0, 0, k_J9_min_7cf53_0)], en_LTX2, en_LLX2, en_TTX2, en_ACX2)
def m_X2_bounded_0 : en_Mx := (k_X2_bounded_0, 1, 3, (0, 0), tb_X2_bounded, [])
set_option maxRecDepth 100000 in
theorem ck_X2_bounded_0 : en_all x_X2_bounded_0 m_X2_bounded_0 u_X2_bounded_0 24 = true := by decide +kernel
theorem ct_X2_bounded_0 {l : Launch} (hl : l.stackTraces = false) {PP : Int32 → Int32 → Prop} (hPP : en_P0 PP) (Ω : Nat → en_H → va_W → Prop) : en_Ctr l vwCl en_TY0 PP en_om0 Ω en_KT yX2_bounded (Cond.code yX2_bounded cX2_bounded 3 (some .int) :: en_cw) (en_rm 1 (0, 0)) 0 k_X2_bounded_0 :=
  en_main (X := x_X2_bounded_0) (M := m_X2_bounded_0) hPP en_f32_ok en_f64_ok hl (by decide +kernel) ⟨en_FTX2_ok, en_PTX2_ok, en_ac (⟨yJ9_min_7cf53, RJ9, cJ9_min_7cf53, 2, (some .int), by decide, ct_J9_min_7cf53_0 hl hPP Ω, fun h => Bool.noConfusion h, fun _ => gc_RX2_43s⟩) en_an, en_LTX2_ok, en_LLX2_ok, en_TTX2_ok hl, ⟨cw256, cw147⟩, en_ACX2_ok⟩ de_X2_bounded ck_X2_bounded_0
def tb_X2_isLawful : en_Tb := [
  (34, [(0, .aload_n 0, 1), (1, .getfield 15, 3), (4, .ifCond .eq 29, 3), (7, .aload_n 0, 1), (8, .getfield 27, 3), (11, .aload_n 0, 1), (12, .aload_n 0, 1), (13, .invokevirtual 23, 3), (16, .invokevirtual 40, 3), (19, .if_icmp .gt 18, 3), (22, .aload_n 0, 1), (23, .getfield 27, 3), (26, .aload_n 0, 1), (27, .getfield 30, 3), (30, .if_icmp .lt 7, 3), (33, .iconst 1, 1)]), 
  (39, [(34, .goto 4, 3), (37, .iconst 0, 1), (38, .ireturn, 1)])]
set_option maxRecDepth 40000 in
theorem de_X2_isLawful : en_De tb_X2_isLawful cX2_isLawful := by
  unfold en_De
  decide +kernel
def k_X2_isLawful_0 : en_K := (1, ([.inr (.inl 11)], []), [([.inr (.inl 11), .inl (0, 0, 0, 0)], []), ([.inr (.inl 11), .inl (1, 1, 0, 0)], [])], [], [11, 12], (0, 0), [])
def u_X2_isLawful_0 : List en_U := []
def x_X2_isLawful_0 : en_Cx := ((en_KT, en_TY0, en_om0), en_FTX2, en_PTX2, [(23, true, 8, 0, 2, k_X2_mean_0), (40, true, 8, 0, 1, k_X2_bounded_0)], en_LTX2, en_LLX2, en_TTX2, en_ACX2)
def m_X2_isLawful_0 : en_Mx := (k_X2_isLawful_0, 3, 1, (0, 2), tb_X2_isLawful, [])
set_option maxRecDepth 100000 in
theorem ck_X2_isLawful_0 : en_all x_X2_isLawful_0 m_X2_isLawful_0 u_X2_isLawful_0 21 = true := by decide +kernel
theorem ct_X2_isLawful_0 {l : Launch} (hl : l.stackTraces = false) {PP : Int32 → Int32 → Prop} (hPP : en_P0 PP) (Ω : Nat → en_H → va_W → Prop) : en_Ctr l vwCl en_TY0 PP en_om0 Ω en_KT yX2_isLawful (Cond.code yX2_isLawful cX2_isLawful 1 (some .boolean) :: en_cw) (en_rm 3 (0, 0)) 0 k_X2_isLawful_0 :=
  en_main (X := x_X2_isLawful_0) (M := m_X2_isLawful_0) hPP en_f32_ok en_f64_ok hl (by decide +kernel) ⟨en_FTX2_ok, en_PTX2_ok, en_ac (⟨yX2_mean, RX2, cX2_mean, 4, (some .int), by decide, ct_X2_mean_0 hl hPP Ω, fun _ => ⟨gc_RX2_23v, by decide, _, rfl, rfl⟩, fun h => Bool.noConfusion h⟩) (en_ac (⟨yX2_bounded, RX2, cX2_bounded, 3, (some .int), by decide, ct_X2_bounded_0 hl hPP Ω, fun _ => ⟨gc_RX2_40v, by decide, _, rfl, rfl⟩, fun h => Bool.noConfusion h⟩) en_an), en_LTX2_ok, en_LLX2_ok, en_TTX2_ok hl, ⟨cw256, cw147⟩, en_ACX2_ok⟩ de_X2_isLawful ck_X2_isLawful_0
def tb_X6_rootFrom : en_Tb := [
  (28, [(0, .iload_n 0, 1), (1, .istore_n 2, 1), (2, .iconst 0, 1), (3, .istore_n 3, 1), (4, .iload_n 3, 1), (5, .sipush 600, 3), (8, .if_icmp .ge 19, 3), (11, .iload_n 2, 1), (12, .iload_n 2, 1), (13, .imul, 1), (14, .iload_n 1, 1), (15, .if_icmp .le 12, 3), (18, .iinc 2 (-1), 3), (21, .iinc 3 1, 3), (24, .goto (-20), 3), (27, .iconst 0, 1)]), 
  (54, [(28, .istore_n 3, 1), (29, .iload_n 3, 1), (30, .sipush 600, 3), (33, .if_icmp .ge 23, 3), (36, .iload_n 2, 1), (37, .iconst 1, 1), (38, .iadd, 1), (39, .iload_n 2, 1), (40, .iconst 1, 1), (41, .iadd, 1), (42, .imul, 1), (43, .iload_n 1, 1), (44, .if_icmp .gt 12, 3), (47, .iinc 2 1, 3), (50, .iinc 3 1, 3), (53, .goto (-24), 3)]), 
  (58, [(56, .iload_n 2, 1), (57, .ireturn, 1)])]
set_option maxRecDepth 40000 in
theorem de_X6_rootFrom : en_De tb_X6_rootFrom cX6_rootFrom := by
  unfold en_De
  decide +kernel
def k_X6_rootFrom_0 : en_K := (2, ([.inl ((-2147483648), 2147483647, 0, 0), .inl ((-2147483648), 2147483647, 0, 0)], []), [([.inl ((-2147483648), 2147483647, 0, 0), .inl ((-2147483648), 2147483647, 0, 0), .inl ((-2147483648), 2147483647, 0, 0)], [])], [], [], (0, 0), [])
def u_X6_rootFrom_0 : List en_U := [
  (4, ([.inl ((-2147483648), 2147483647, 0, 0), .inl ((-2147483648), 2147483647, 0, 0), .inl ((-2147483648), 2147483647, 0, 0), .inl (0, 600, 0, 0)], []), [(0, 0), (1, 1), (2, 2), (3, 3)], (0, 0), [((-2), 3)], 2409), 
  (29, ([.inl ((-2147483648), 2147483647, 0, 0), .inl ((-2147483648), 2147483647, 0, 0), .inl ((-2147483648), 2147483647, 0, 0), .inl (0, 600, 0, 0)], []), [(0, 0), (1, 1), (2, 2), (3, 3)], (0, 0), [((-2), 3)], 1204)]
def x_X6_rootFrom_0 : en_Cx := ((en_KT, en_TY0, en_om0), en_FTX6, en_PTX6, [], en_LTX6, en_LLX6, en_TTX6, en_ACX6)
def m_X6_rootFrom_0 : en_Mx := (k_X6_rootFrom_0, 0, 4, (0, 0), tb_X6_rootFrom, [])
set_option maxRecDepth 100000 in
theorem ck_X6_rootFrom_0 : en_all x_X6_rootFrom_0 m_X6_rootFrom_0 u_X6_rootFrom_0 18 = true := by decide +kernel
theorem ct_X6_rootFrom_0 {l : Launch} (hl : l.stackTraces = false) {PP : Int32 → Int32 → Prop} (hPP : en_P0 PP) (Ω : Nat → en_H → va_W → Prop) : en_Ctr l vwCl en_TY0 PP en_om0 Ω en_KT yX6_rootFrom (Cond.code yX6_rootFrom cX6_rootFrom 4 (some .int) :: en_cw) (en_rm 0 (0, 0)) 0 k_X6_rootFrom_0 :=
  en_main (X := x_X6_rootFrom_0) (M := m_X6_rootFrom_0) hPP en_f32_ok en_f64_ok hl (by decide +kernel) ⟨en_FTX6_ok, en_PTX6_ok, en_an, en_LTX6_ok, en_LLX6_ok, en_TTX6_ok hl, ⟨cw256, cw147⟩, en_ACX6_ok⟩ de_X6_rootFrom ck_X6_rootFrom_0
def k_X6_cellAt_1 : en_K := (2, ([.inl ((-2147483648), 2147483647, 0, 0), .inl (0, 19, 0, 0)], []), [([.inl ((-2147483648), 2147483647, 0, 0), .inl (0, 19, 0, 0), .inl ((-2147483648), 2147483647, 0, 0)], [])], [], [], (0, 0), [])
def u_X6_cellAt_1 : List en_U := []
def x_X6_cellAt_1 : en_Cx := ((en_KT, en_TY0, en_om0), en_FTX6, en_PTX6, [], en_LTX6, en_LLX6, en_TTX6, en_ACX6)
def m_X6_cellAt_1 : en_Mx := (k_X6_cellAt_1, 0, 2, (0, 0), tb_X6_cellAt, [])
set_option maxRecDepth 100000 in
theorem ck_X6_cellAt_1 : en_all x_X6_cellAt_1 m_X6_cellAt_1 u_X6_cellAt_1 9 = true := by decide +kernel
theorem ct_X6_cellAt_1 {l : Launch} (hl : l.stackTraces = false) {PP : Int32 → Int32 → Prop} (hPP : en_P0 PP) (Ω : Nat → en_H → va_W → Prop) : en_Ctr l vwCl en_TY0 PP en_om0 Ω en_KT yX6_cellAt (Cond.code yX6_cellAt cX6_cellAt 2 (some .int) :: en_cw) (en_rm 0 (0, 0)) 0 k_X6_cellAt_1 :=
  en_main (X := x_X6_cellAt_1) (M := m_X6_cellAt_1) hPP en_f32_ok en_f64_ok hl (by decide +kernel) ⟨en_FTX6_ok, en_PTX6_ok, en_an, en_LTX6_ok, en_LLX6_ok, en_TTX6_ok hl, ⟨cw256, cw147⟩, en_ACX6_ok⟩ de_X6_cellAt ck_X6_cellAt_1
def tb_X3_pointInRow : en_Tb := [
  (24, [(0, .iload_n 1, 1), (1, .bipush 30, 2), (3, .irem, 1), (4, .istore 4, 2), (6, .iload 4, 2), (8, .iload_n 2, 1), (9, .isub, 1), (10, .iload_n 3, 1), (11, .invokestatic 15, 3), (14, .ifCond .eq 28, 3), (17, .aload_n 0, 1), (18, .iload_n 1, 1), (19, .iload 4, 2), (21, .iload_n 2, 1), (22, .isub, 1), (23, .iload_n 3, 1)]), 
  (54, [(24, .invokestatic 19, 3), (27, .invokevirtual 60, 3), (30, .ifCond .eq 12, 3), (33, .iload 4, 2), (35, .iload_n 2, 1), (36, .isub, 1), (37, .iload_n 3, 1), (38, .invokestatic 19, 3), (41, .ireturn, 1), (42, .iload 4, 2), (44, .iload_n 2, 1), (45, .iadd, 1), (46, .iload_n 3, 1), (47, .invokestatic 15, 3), (50, .ifCond .eq 28, 3), (53, .aload_n 0, 1)]), 
  (80, [(54, .iload_n 1, 1), (55, .iload 4, 2), (57, .iload_n 2, 1), (58, .iadd, 1), (59, .iload_n 3, 1), (60, .invokestatic 19, 3), (63, .invokevirtual 60, 3), (66, .ifCond .eq 12, 3), (69, .iload 4, 2), (71, .iload_n 2, 1), (72, .iadd, 1), (73, .iload_n 3, 1), (74, .invokestatic 19, 3), (77, .ireturn, 1), (78, .iconst (-1), 1), (79, .ireturn, 1)])]
set_option maxRecDepth 40000 in
theorem de_X3_pointInRow : en_De tb_X3_pointInRow cX3_pointInRow := by
  unfold en_De
  decide +kernel
def k_X3_pointInRow_0 : en_K := (4, ([.inr (.inl 5), .inl ((-2147483648), 2147483647, 0, 0), .inl ((-2147483648), 2147483647, 0, 0), .inl ((-2147483648), 2147483647, 0, 0)], []), [([.inr (.inl 5), .inl ((-2147483648), 2147483647, 0, 0), .inl ((-2147483648), 2147483647, 0, 0), .inl (0, 19, 0, 0), .inl ((-2147483648), 2147483647, 0, 0)], []), ([.inr (.inl 5), .inl ((-2147483648), 2147483647, 0, 0), .inl ((-2147483648), 2147483647, 0, 0), .inl ((-2147483648), 2147483647, 0, 0), .inl ((-1), (-1), 0, 0)], [])], [], [5, 6], (0, 0), [])
def u_X3_pointInRow_0 : List en_U := []
def x_X3_pointInRow_0 : en_Cx := ((en_KT, en_TY0, en_om0), en_FTX3, en_PTX3, [(15, false, 0, 0, 0, k_X6_isCell_0), (19, false, 0, 0, 0, k_X6_cellAt_0), (19, false, 0, 0, 0, k_X6_cellAt_1), (60, true, 9, 0, 2, k_X3_isFreeFrom_0)], en_LTX3, en_LLX3, en_TTX3, en_ACX3)
def m_X3_pointInRow_0 : en_Mx := (k_X3_pointInRow_0, 3, 5, (0, 0), tb_X3_pointInRow, [])
set_option maxRecDepth 100000 in
theorem ck_X3_pointInRow_0 : en_all x_X3_pointInRow_0 m_X3_pointInRow_0 u_X3_pointInRow_0 43 = true := by decide +kernel
theorem ct_X3_pointInRow_0 {l : Launch} (hl : l.stackTraces = false) {PP : Int32 → Int32 → Prop} (hPP : en_P0 PP) (Ω : Nat → en_H → va_W → Prop) : en_Ctr l vwCl en_TY0 PP en_om0 Ω en_KT yX3_pointInRow (Cond.code yX3_pointInRow cX3_pointInRow 5 (some .int) :: en_cw) (en_rm 3 (0, 0)) 0 k_X3_pointInRow_0 :=
  en_main (X := x_X3_pointInRow_0) (M := m_X3_pointInRow_0) hPP en_f32_ok en_f64_ok hl (by decide +kernel) ⟨en_FTX3_ok, en_PTX3_ok, en_ac (⟨yX6_isCell, RX6, cX6_isCell, 2, (some .boolean), by decide, ct_X6_isCell_0 hl hPP Ω, fun h => Bool.noConfusion h, fun _ => gc_RX3_15s⟩) (en_ac (⟨yX6_cellAt, RX6, cX6_cellAt, 2, (some .int), by decide, ct_X6_cellAt_0 hl hPP Ω, fun h => Bool.noConfusion h, fun _ => gc_RX3_19s⟩) (en_ac (⟨yX6_cellAt, RX6, cX6_cellAt, 2, (some .int), by decide, ct_X6_cellAt_1 hl hPP Ω, fun h => Bool.noConfusion h, fun _ => gc_RX3_19s⟩) (en_ac (⟨yX3_isFreeFrom, RX3, cX3_isFreeFrom, 3, (some .boolean), by decide, ct_X3_isFreeFrom_0 hl hPP Ω, fun _ => ⟨gc_RX3_60v, by decide, _, rfl, rfl⟩, fun h => Bool.noConfusion h⟩) en_an))), en_LTX3_ok, en_LLX3_ok, en_TTX3_ok hl, ⟨cw256, cw147⟩, en_ACX3_ok⟩ de_X3_pointInRow ck_X3_pointInRow_0
def tb_X3_pointAtDistance : en_Tb := [
  (25, [(0, .iconst 0, 1), (1, .istore_n 3, 1), (2, .iconst 0, 1), (3, .istore 4, 2), (5, .iload 4, 2), (7, .bipush 20, 2), (9, .if_icmp .ge 70, 3), (12, .iload 4, 2), (14, .iload_n 1, 1), (15, .bipush 30, 2), (17, .idiv, 1), (18, .isub, 1), (19, .istore 5, 2), (21, .iload_n 2, 1), (22, .iload 5, 2), (24, .iload 5, 2)]), 
  (52, [(26, .imul, 1), (27, .isub, 1), (28, .istore 6, 2), (30, .iload 6, 2), (32, .ifCond .lt 41, 3), (35, .iload_n 3, 1), (36, .iload 6, 2), (38, .invokestatic 66, 3), (41, .istore_n 3, 1), (42, .iload_n 3, 1), (43, .iload_n 3, 1), (44, .imul, 1), (45, .iload 6, 2), (47, .if_icmp .ne 14, 3), (50, .aload_n 0, 1), (51, .iload_n 1, 1)]), 
  (81, [(52, .iload_n 3, 1), (53, .iload 4, 2), (55, .invokevirtual 69, 3), (58, .goto 4, 3), (61, .iconst (-1), 1), (62, .istore 7, 2), (64, .iload 7, 2), (66, .iconst (-1), 1), (67, .if_icmp .eq 6, 3), (70, .iload 7, 2), (72, .ireturn, 1), (73, .iinc 4 1, 3), (76, .goto (-71), 3), (79, .iconst (-1), 1), (80, .ireturn, 1)])]
set_option maxRecDepth 40000 in
theorem de_X3_pointAtDistance : en_De tb_X3_pointAtDistance cX3_pointAtDistance := by
  unfold en_De
  decide +kernel
def k_X3_pointAtDistance_0 : en_K := (3, ([.inr (.inl 5), .inl ((-2147483648), 2147483647, 0, 0), .inl ((-2147483648), 2147483647, 0, 0)], []), [([.inr (.inl 5), .inl ((-2147483648), 2147483647, 0, 0), .inl ((-2147483648), 2147483647, 0, 0), .inl ((-2147483648), 2147483647, 0, 0)], []), ([.inr (.inl 5), .inl ((-2147483648), 2147483647, 0, 0), .inl ((-2147483648), 2147483647, 0, 0), .inl ((-1), (-1), 0, 0)], [])], [], [5, 6], (0, 0), [])
def u_X3_pointAtDistance_0 : List en_U := [
  (5, ([.inr (.inl 5), .inl ((-2147483648), 2147483647, 0, 0), .inl ((-2147483648), 2147483647, 0, 0), .inl (0, 20, 0, 0), .inl ((-2147483648), 2147483647, 0, 0)], []), [(0, 0), (1, 1), (2, 2), (4, 3), (3, 4)], (0, 0), [((-2), 3)], 44)]
def x_X3_pointAtDistance_0 : en_Cx := ((en_KT, en_TY0, en_om0), en_FTX3, en_PTX3, [(66, false, 0, 0, 0, k_X6_rootFrom_0), (69, true, 9, 0, 3, k_X3_pointInRow_0)], en_LTX3, en_LLX3, en_TTX3, en_ACX3)
def m_X3_pointAtDistance_0 : en_Mx := (k_X3_pointAtDistance_0, 4, 8, (0, 0), tb_X3_pointAtDistance, [])
set_option maxRecDepth 100000 in
theorem ck_X3_pointAtDistance_0 : en_all x_X3_pointAtDistance_0 m_X3_pointAtDistance_0 u_X3_pointAtDistance_0 41 = true := by decide +kernel
theorem ct_X3_pointAtDistance_0 {l : Launch} (hl : l.stackTraces = false) {PP : Int32 → Int32 → Prop} (hPP : en_P0 PP) (Ω : Nat → en_H → va_W → Prop) : en_Ctr l vwCl en_TY0 PP en_om0 Ω en_KT yX3_pointAtDistance (Cond.code yX3_pointAtDistance cX3_pointAtDistance 8 (some .int) :: en_cw) (en_rm 4 (0, 0)) 0 k_X3_pointAtDistance_0 :=
  en_main (X := x_X3_pointAtDistance_0) (M := m_X3_pointAtDistance_0) hPP en_f32_ok en_f64_ok hl (by decide +kernel) ⟨en_FTX3_ok, en_PTX3_ok, en_ac (⟨yX6_rootFrom, RX6, cX6_rootFrom, 4, (some .int), by decide, ct_X6_rootFrom_0 hl hPP Ω, fun h => Bool.noConfusion h, fun _ => gc_RX3_66s⟩) (en_ac (⟨yX3_pointInRow, RX3, cX3_pointInRow, 5, (some .int), by decide, ct_X3_pointInRow_0 hl hPP Ω, fun _ => ⟨gc_RX3_69v, by decide, _, rfl, rfl⟩, fun h => Bool.noConfusion h⟩) en_an), en_LTX3_ok, en_LLX3_ok, en_TTX3_ok hl, ⟨cw256, cw147⟩, en_ACX3_ok⟩ de_X3_pointAtDistance ck_X3_pointAtDistance_0
