def tb_J6_compare_7cf53 : en_Tb := [
  (20, [(0, .iload_n 0, 1), (1, .iload_n 1, 1), (2, .if_icmp .ge 7, 3), (5, .iconst (-1), 1), (6, .goto 13, 3), (9, .iload_n 0, 1), (10, .iload_n 1, 1), (11, .if_icmp .ne 7, 3), (14, .iconst 0, 1), (15, .goto 4, 3), (18, .iconst 1, 1), (19, .ireturn, 1)])]
set_option maxRecDepth 40000 in
theorem de_J6_compare_7cf53 : en_De tb_J6_compare_7cf53 cJ6_compare_7cf53 := by
  unfold en_De
  decide +kernel
def k_J6_compare_7cf53_0 : en_K := (2, ([.inl ((-2147483648), 2147483647, 0, 0), .inl ((-2147483648), 2147483647, 0, 0)], []), [([.inl ((-2147483648), 2147483646, 0, 0), .inl ((-2147483647), 2147483647, 0, 0), .inl ((-1), (-1), 0, 0)], []), ([.inl ((-2147483648), 2147483647, 0, 0), .inl ((-2147483648), 2147483647, 0, 0), .inl (0, 0, 0, 0)], []), ([.inl ((-2147483648), 2147483647, 0, 0), .inl ((-2147483648), 2147483647, 0, 0), .inl (1, 1, 0, 0)], [(12, 0, 1, 0, 0, 0)])], [], [], (0, 0), [])
def u_J6_compare_7cf53_0 : List en_U := []
def x_J6_compare_7cf53_0 : en_Cx := ((en_KT, en_TY0, en_om0), en_FTJ6, en_PTJ6, [], en_LTJ6, en_LLJ6, en_TTJ6, en_ACJ6)
def m_J6_compare_7cf53_0 : en_Mx := (k_J6_compare_7cf53_0, 0, 2, (0, 0), tb_J6_compare_7cf53, [])
set_option maxRecDepth 100000 in
theorem ck_J6_compare_7cf53_0 : en_all x_J6_compare_7cf53_0 m_J6_compare_7cf53_0 u_J6_compare_7cf53_0 12 = true := by decide +kernel
theorem ct_J6_compare_7cf53_0 {l : Launch} (hl : l.stackTraces = false) {PP : Int32 → Int32 → Prop} (hPP : en_P0 PP) (Ω : Nat → en_H → va_W → Prop) : en_Ctr l vwCl en_TY0 PP en_om0 Ω en_KT yJ6_compare_7cf53 (Cond.code yJ6_compare_7cf53 cJ6_compare_7cf53 2 (some .int) :: en_cw) (en_rm 0 (0, 0)) 0 k_J6_compare_7cf53_0 :=
  en_main (X := x_J6_compare_7cf53_0) (M := m_J6_compare_7cf53_0) hPP en_f32_ok en_f64_ok hl (by decide +kernel) ⟨en_FTJ6_ok, en_PTJ6_ok, en_an, en_LTJ6_ok, en_LLJ6_ok, en_TTJ6_ok hl, ⟨cw256, cw147⟩, en_ACJ6_ok⟩ de_J6_compare_7cf53 ck_J6_compare_7cf53_0
def tb_X6_compareLast : en_Tb := [
  (28, [(0, .aload_n 0, 1), (1, .getfield 62, 3), (4, .iload_n 3, 1), (5, .isub, 1), (6, .istore 4, 2), (8, .aload_n 0, 1), (9, .getfield 18, 3), (12, .iload_n 1, 1), (13, .aaload, 1), (14, .getfield 155, 3), (17, .iload 4, 2), (19, .aload_n 0, 1), (20, .getfield 62, 3), (23, .invokevirtual 466, 3), (26, .aload_n 0, 1), (27, .getfield 18, 3)]), 
  (48, [(30, .iload_n 2, 1), (31, .aaload, 1), (32, .getfield 155, 3), (35, .iload 4, 2), (37, .aload_n 0, 1), (38, .getfield 62, 3), (41, .invokevirtual 466, 3), (44, .invokestatic 481, 3), (47, .ireturn, 1)])]
set_option maxRecDepth 40000 in
theorem de_X6_compareLast : en_De tb_X6_compareLast cX6_compareLast := by
  unfold en_De
  decide +kernel
def k_X6_compareLast_0 : en_K := (4, ([.inr (.inl 0), .inl (0, 5, 0, 0), .inl (0, 5, 0, 0), .inl (0, 9, 0, 0)], []), [([.inr (.inl 0), .inl (0, 5, 0, 0), .inl (0, 5, 0, 0), .inl (0, 9, 0, 0), .inl ((-1), (-1), 0, 0)], []), ([.inr (.inl 0), .inl (0, 5, 0, 0), .inl (0, 5, 0, 0), .inl (0, 9, 0, 0), .inl (0, 0, 0, 0)], []), ([.inr (.inl 0), .inl (0, 5, 0, 0), .inl (0, 5, 0, 0), .inl (0, 9, 0, 0), .inl (1, 1, 0, 0)], [])], [], [0, 2, 7, 9, 10], (0, 0), [])
def u_X6_compareLast_0 : List en_U := []
def x_X6_compareLast_0 : en_Cx := ((en_KT, en_TY0, en_om0), en_FTX6, en_PTX6, [(466, true, 7, 0, 1, k_X1_sumFrom_0), (481, false, 0, 0, 0, k_J6_compare_7cf53_0)], en_LTX6, en_LLX6, en_TTX6, en_ACX6)
def m_X6_compareLast_0 : en_Mx := (k_X6_compareLast_0, 2, 5, (0, 0), tb_X6_compareLast, [])
set_option maxRecDepth 100000 in
theorem ck_X6_compareLast_0 : en_all x_X6_compareLast_0 m_X6_compareLast_0 u_X6_compareLast_0 28 = true := by decide +kernel
theorem ct_X6_compareLast_0 {l : Launch} (hl : l.stackTraces = false) {PP : Int32 → Int32 → Prop} (hPP : en_P0 PP) (Ω : Nat → en_H → va_W → Prop) : en_Ctr l vwCl en_TY0 PP en_om0 Ω en_KT yX6_compareLast (Cond.code yX6_compareLast cX6_compareLast 5 (some .int) :: en_cw) (en_rm 2 (0, 0)) 0 k_X6_compareLast_0 :=
  en_main (X := x_X6_compareLast_0) (M := m_X6_compareLast_0) hPP en_f32_ok en_f64_ok hl (by decide +kernel) ⟨en_FTX6_ok, en_PTX6_ok, en_ac (⟨yX1_sumFrom, RX1, cX1_sumFrom, 5, (some .int), by decide, ct_X1_sumFrom_0 hl hPP Ω, fun _ => ⟨gc_RX6_466v, by decide, _, rfl, rfl⟩, fun h => Bool.noConfusion h⟩) (en_ac (⟨yJ6_compare_7cf53, RJ6, cJ6_compare_7cf53, 2, (some .int), by decide, ct_J6_compare_7cf53_0 hl hPP Ω, fun h => Bool.noConfusion h, fun _ => gc_RX6_481s⟩) en_an), en_LTX6_ok, en_LLX6_ok, en_TTX6_ok hl, ⟨cw256, cw147⟩, en_ACX6_ok⟩ de_X6_compareLast ck_X6_compareLast_0
def tb_X6_rankOf : en_Tb := [
  (28, [(0, .iconst 0, 1), (1, .istore_n 2, 1), (2, .iconst 0, 1), (3, .istore_n 3, 1), (4, .iload_n 3, 1), (5, .aload_n 0, 1), (6, .getfield 122, 3), (9, .if_icmp .ge 40, 3), (12, .aload_n 0, 1), (13, .getfield 18, 3), (16, .iload_n 3, 1), (17, .aaload, 1), (18, .getfield 155, 3), (21, .invokevirtual 508, 3), (24, .ifCond .eq 19, 3), (27, .aload_n 0, 1)]), 
  (53, [(28, .iload_n 3, 1), (29, .iload_n 1, 1), (30, .aload_n 0, 1), (31, .getfield 62, 3), (34, .invokevirtual 502, 3), (37, .ifCond .ge 6, 3), (40, .iinc 2 1, 3), (43, .iinc 3 1, 3), (46, .goto (-42), 3), (49, .iload_n 2, 1), (50, .iconst 1, 1), (51, .iadd, 1), (52, .ireturn, 1)])]
set_option maxRecDepth 40000 in
theorem de_X6_rankOf : en_De tb_X6_rankOf cX6_rankOf := by
  unfold en_De
  decide +kernel
def k_X6_rankOf_0 : en_K := (2, ([.inr (.inl 0), .inl (0, 5, 0, 0)], []), [([.inr (.inl 0), .inl (0, 5, 0, 0), .inl ((-2147483648), 2147483647, 0, 0)], [])], [], [0, 2, 7, 9, 10], (0, 0), [])
def u_X6_rankOf_0 : List en_U := [
  (4, ([.inr (.inl 0), .inl (0, 5, 0, 0), .inl (0, 6, 0, 0), .inl ((-2147483648), 2147483647, 0, 0)], []), [(0, 0), (1, 1), (3, 2), (2, 3)], (0, 0), [((-2), 2)], 16)]
def x_X6_rankOf_0 : en_Cx := ((en_KT, en_TY0, en_om0), en_FTX6, en_PTX6, [(502, true, 12, 0, 2, k_X6_compareLast_0), (508, true, 7, 0, 0, k_X1_isRanked_0)], en_LTX6, en_LLX6, en_TTX6, en_ACX6)
def m_X6_rankOf_0 : en_Mx := (k_X6_rankOf_0, 3, 4, (0, 0), tb_X6_rankOf, [])
set_option maxRecDepth 100000 in
theorem ck_X6_rankOf_0 : en_all x_X6_rankOf_0 m_X6_rankOf_0 u_X6_rankOf_0 24 = true := by decide +kernel
theorem ct_X6_rankOf_0 {l : Launch} (hl : l.stackTraces = false) {PP : Int32 → Int32 → Prop} (hPP : en_P0 PP) (Ω : Nat → en_H → va_W → Prop) : en_Ctr l vwCl en_TY0 PP en_om0 Ω en_KT yX6_rankOf (Cond.code yX6_rankOf cX6_rankOf 4 (some .int) :: en_cw) (en_rm 3 (0, 0)) 0 k_X6_rankOf_0 :=
  en_main (X := x_X6_rankOf_0) (M := m_X6_rankOf_0) hPP en_f32_ok en_f64_ok hl (by decide +kernel) ⟨en_FTX6_ok, en_PTX6_ok, en_ac (⟨yX6_compareLast, RX6, cX6_compareLast, 5, (some .int), by decide, ct_X6_compareLast_0 hl hPP Ω, fun _ => ⟨gc_RX6_502v, by decide, _, rfl, rfl⟩, fun h => Bool.noConfusion h⟩) (en_ac (⟨yX1_isRanked, RX1, cX1_isRanked, 1, (some .boolean), by decide, ct_X1_isRanked_0 hl hPP Ω, fun _ => ⟨gc_RX6_508v, by decide, _, rfl, rfl⟩, fun h => Bool.noConfusion h⟩) en_an), en_LTX6_ok, en_LLX6_ok, en_TTX6_ok hl, ⟨cw256, cw147⟩, en_ACX6_ok⟩ de_X6_rankOf ck_X6_rankOf_0
def tb_X6_cut : en_Tb := [
  (27, [(0, .iload_n 1, 1), (1, .iconst 1, 1), (2, .if_icmp .lt 9, 3), (5, .iload_n 1, 1), (6, .bipush 6, 2), (8, .if_icmp .le 14, 3), (11, .new 49, 3), (14, .dup, 1), (15, .ldc_w 506, 3), (18, .invokespecial 53, 3), (21, .athrow, 1), (22, .iconst 0, 1), (23, .istore_n 2, 1), (24, .iconst 0, 1), (25, .istore_n 3, 1), (26, .iload_n 3, 1)]), 
  (59, [(27, .aload_n 0, 1), (28, .getfield 122, 3), (31, .if_icmp .ge 36, 3), (34, .aload_n 0, 1), (35, .getfield 18, 3), (38, .iload_n 3, 1), (39, .aaload, 1), (40, .getfield 155, 3), (43, .invokevirtual 508, 3), (46, .ifCond .eq 15, 3), (49, .aload_n 0, 1), (50, .iload_n 3, 1), (51, .invokevirtual 499, 3), (54, .iload_n 1, 1), (55, .if_icmp .gt 6, 3), (58, .iinc 2 1, 3)]), 
  (69, [(61, .iinc 3 1, 3), (64, .goto (-38), 3), (67, .iload_n 2, 1), (68, .ireturn, 1)])]
set_option maxRecDepth 40000 in
theorem de_X6_cut : en_De tb_X6_cut cX6_cut := by
  unfold en_De
  decide +kernel
def k_X6_cut_0 : en_K := (2, ([.inr (.inl 0), .inl ((-2147483648), 2147483647, 0, 0)], []), [([.inr (.inl 0), .inl (1, 6, 0, 0), .inl ((-2147483648), 2147483647, 0, 0)], [])], [], [0, 2, 7, 9, 10], (1, 6), [0])
def u_X6_cut_0 : List en_U := [
  (26, ([.inr (.inl 0), .inl (1, 6, 0, 0), .inl (0, 6, 0, 0), .inl ((-2147483648), 2147483647, 0, 0)], []), [(0, 0), (1, 1), (3, 2), (2, 3)], (0, 0), [((-2), 2)], 16)]
def x_X6_cut_0 : en_Cx := ((en_KT, en_TY0, en_om0), en_FTX6, en_PTX6, [(499, true, 12, 0, 3, k_X6_rankOf_0), (508, true, 7, 0, 0, k_X1_isRanked_0)], en_LTX6, en_LLX6, en_TTX6, en_ACX6)
def m_X6_cut_0 : en_Mx := (k_X6_cut_0, 4, 4, (0, 0), tb_X6_cut, [])
set_option maxRecDepth 100000 in
theorem ck_X6_cut_0 : en_all x_X6_cut_0 m_X6_cut_0 u_X6_cut_0 22 = true := by decide +kernel
theorem ct_X6_cut_0 {l : Launch} (hl : l.stackTraces = false) {PP : Int32 → Int32 → Prop} (hPP : en_P0 PP) (Ω : Nat → en_H → va_W → Prop) : en_Ctr l vwCl en_TY0 PP en_om0 Ω en_KT yX6_cut (Cond.code yX6_cut cX6_cut 4 (some .int) :: en_cw) (en_rm 4 (1, 6)) 0 k_X6_cut_0 :=
  en_main (X := x_X6_cut_0) (M := m_X6_cut_0) hPP en_f32_ok en_f64_ok hl (by decide +kernel) ⟨en_FTX6_ok, en_PTX6_ok, en_ac (⟨yX6_rankOf, RX6, cX6_rankOf, 4, (some .int), by decide, ct_X6_rankOf_0 hl hPP Ω, fun _ => ⟨gc_RX6_499v, by decide, _, rfl, rfl⟩, fun h => Bool.noConfusion h⟩) (en_ac (⟨yX1_isRanked, RX1, cX1_isRanked, 1, (some .boolean), by decide, ct_X1_isRanked_0 hl hPP Ω, fun _ => ⟨gc_RX6_508v, by decide, _, rfl, rfl⟩, fun h => Bool.noConfusion h⟩) en_an), en_LTX6_ok, en_LLX6_ok, en_TTX6_ok hl, ⟨cw256, cw147⟩, en_ACX6_ok⟩ de_X6_cut ck_X6_cut_0
def tb_X2_differenceAt : en_Tb := [
  (21, [(0, .iload_n 1, 1), (1, .ifCond .lt 18, 3), (4, .iload_n 1, 1), (5, .bipush 20, 2), (7, .if_icmp .ge 12, 3), (10, .aload_n 0, 1), (11, .getfield 9, 3), (14, .iload_n 1, 1), (15, .iaload, 1), (16, .goto 4, 3), (19, .iconst 0, 1), (20, .ireturn, 1)])]
set_option maxRecDepth 40000 in
theorem de_X2_differenceAt : en_De tb_X2_differenceAt cX2_differenceAt := by
  unfold en_De
  decide +kernel
def k_X2_differenceAt_0 : en_K := (2, ([.inr (.inl 11), .inl ((-2147483648), 2147483647, 0, 0)], []), [([.inr (.inl 11), .inl ((-2147483648), 2147483647, 0, 0), .inl ((-2147483648), 2147483647, 0, 0)], [])], [], [11, 12], (0, 0), [])
def u_X2_differenceAt_0 : List en_U := []
def x_X2_differenceAt_0 : en_Cx := ((en_KT, en_TY0, en_om0), en_FTX2, en_PTX2, [], en_LTX2, en_LLX2, en_TTX2, en_ACX2)
def m_X2_differenceAt_0 : en_Mx := (k_X2_differenceAt_0, 0, 2, (0, 0), tb_X2_differenceAt, [])
set_option maxRecDepth 100000 in
theorem ck_X2_differenceAt_0 : en_all x_X2_differenceAt_0 m_X2_differenceAt_0 u_X2_differenceAt_0 14 = true := by decide +kernel
theorem ct_X2_differenceAt_0 {l : Launch} (hl : l.stackTraces = false) {PP : Int32 → Int32 → Prop} (hPP : en_P0 PP) (Ω : Nat → en_H → va_W → Prop) : en_Ctr l vwCl en_TY0 PP en_om0 Ω en_KT yX2_differenceAt (Cond.code yX2_differenceAt cX2_differenceAt 2 (some .int) :: en_cw) (en_rm 0 (0, 0)) 0 k_X2_differenceAt_0 :=
  en_main (X := x_X2_differenceAt_0) (M := m_X2_differenceAt_0) hPP en_f32_ok en_f64_ok hl (by decide +kernel) ⟨en_FTX2_ok, en_PTX2_ok, en_an, en_LTX2_ok, en_LLX2_ok, en_TTX2_ok hl, ⟨cw256, cw147⟩, en_ACX2_ok⟩ de_X2_differenceAt ck_X2_differenceAt_0
def tb_X6_difference : en_Tb := [
  (30, [(0, .aload_n 0, 1), (1, .iload_n 1, 1), (2, .invokevirtual 127, 3), (5, .iload_n 2, 1), (6, .ifCond .lt 19, 3), (9, .iload_n 2, 1), (10, .aload_n 0, 1), (11, .getfield 18, 3), (14, .iload_n 1, 1), (15, .aaload, 1), (16, .getfield 524, 3), (19, .getfield 533, 3), (22, .if_icmp .lt 14, 3), (25, .new 535, 3), (28, .dup, 1), (29, .ldc_w 537, 3)]), 
  (50, [(32, .invokespecial 539, 3), (35, .athrow, 1), (36, .aload_n 0, 1), (37, .getfield 18, 3), (40, .iload_n 1, 1), (41, .aaload, 1), (42, .getfield 524, 3), (45, .iload_n 2, 1), (46, .invokevirtual 540, 3), (49, .ireturn, 1)])]
set_option maxRecDepth 40000 in
theorem de_X6_difference : en_De tb_X6_difference cX6_difference := by
  unfold en_De
  decide +kernel
def k_X6_difference_0 : en_K := (3, ([.inr (.inl 0), .inl ((-2147483648), 2147483647, 0, 0), .inl ((-2147483648), 2147483647, 0, 0)], []), [([.inr (.inl 0), .inl (0, 5, 0, 0), .inl (0, 19, 0, 0), .inl ((-2147483648), 2147483647, 0, 0)], [])], [], [0, 2, 7, 11, 12], (2, 12), [3])
def u_X6_difference_0 : List en_U := []
def x_X6_difference_0 : en_Cx := ((en_KT, en_TY0, en_om0), en_FTX6, en_PTX6, [(127, true, 12, 4, 0, k_X6_needPlayer_0), (540, true, 8, 0, 0, k_X2_differenceAt_0)], en_LTX6, en_LLX6, en_TTX6, en_ACX6)
def m_X6_difference_0 : en_Mx := (k_X6_difference_0, 1, 3, (0, 0), tb_X6_difference, [])
set_option maxRecDepth 100000 in
theorem ck_X6_difference_0 : en_all x_X6_difference_0 m_X6_difference_0 u_X6_difference_0 24 = true := by decide +kernel
theorem ct_X6_difference_0 {l : Launch} (hl : l.stackTraces = false) {PP : Int32 → Int32 → Prop} (hPP : en_P0 PP) (Ω : Nat → en_H → va_W → Prop) : en_Ctr l vwCl en_TY0 PP en_om0 Ω en_KT yX6_difference (Cond.code yX6_difference cX6_difference 3 (some .int) :: en_cw) (en_rm 1 (2, 12)) 0 k_X6_difference_0 :=
  en_main (X := x_X6_difference_0) (M := m_X6_difference_0) hPP en_f32_ok en_f64_ok hl (by decide +kernel) ⟨en_FTX6_ok, en_PTX6_ok, en_ac (⟨yX6_needPlayer, RX6, cX6_needPlayer, 2, none, by decide, ct_X6_needPlayer_0 hl hPP Ω, fun _ => ⟨gc_RX6_127v, by decide, _, rfl, rfl⟩, fun h => Bool.noConfusion h⟩) (en_ac (⟨yX2_differenceAt, RX2, cX2_differenceAt, 2, (some .int), by decide, ct_X2_differenceAt_0 hl hPP Ω, fun _ => ⟨gc_RX6_540v, by decide, _, rfl, rfl⟩, fun h => Bool.noConfusion h⟩) en_an), en_LTX6_ok, en_LLX6_ok, en_TTX6_ok hl, ⟨cw256, cw147⟩, en_ACX6_ok⟩ de_X6_difference ck_X6_difference_0
def tb_X6_edition : en_Tb := [
  (29, [(0, .iload_n 1, 1), (1, .bipush 110, 2), (3, .if_icmp .eq 19, 3), (6, .iload_n 1, 1), (7, .bipush 111, 2), (9, .if_icmp .eq 13, 3), (12, .new 49, 3), (15, .dup, 1), (16, .ldc 143, 2), (18, .invokespecial 53, 3), (21, .athrow, 1), (22, .aload_n 0, 1), (23, .getfield 38, 3), (26, .istore_n 2, 1), (27, .aload_n 0, 1), (28, .iload_n 1, 1)]), 
  (34, [(29, .putfield 38, 3), (32, .iload_n 2, 1), (33, .ireturn, 1)])]
set_option maxRecDepth 40000 in
theorem de_X6_edition : en_De tb_X6_edition cX6_edition := by
  unfold en_De
  decide +kernel
def k_X6_edition_0 : en_K := (2, ([.inr (.inl 0), .inl (0, 65535, 0, 0)], []), [([.inr (.inl 0), .inl (110, 111, 0, 0), .inl (0, 65535, 0, 0)], [(0, 0, 7, 1, 0, 0)])], [(0, 7)], [0], (1, 6), [0])
def u_X6_edition_0 : List en_U := []
def x_X6_edition_0 : en_Cx := ((en_KT, en_TY0, en_om0), en_FTX6, en_PTX6, [], en_LTX6, en_LLX6, en_TTX6, en_ACX6)
def m_X6_edition_0 : en_Mx := (k_X6_edition_0, 0, 3, (0, 1), tb_X6_edition, [])
set_option maxRecDepth 100000 in
theorem ck_X6_edition_0 : en_all x_X6_edition_0 m_X6_edition_0 u_X6_edition_0 17 = true := by decide +kernel
theorem ct_X6_edition_0 {l : Launch} (hl : l.stackTraces = false) {PP : Int32 → Int32 → Prop} (hPP : en_P0 PP) (Ω : Nat → en_H → va_W → Prop) : en_Ctr l vwCl en_TY0 PP en_om0 Ω en_KT yX6_edition (Cond.code yX6_edition cX6_edition 3 (some .char) :: en_cw) (en_rm 0 (1, 6)) 0 k_X6_edition_0 :=
  en_main (X := x_X6_edition_0) (M := m_X6_edition_0) hPP en_f32_ok en_f64_ok hl (by decide +kernel) ⟨en_FTX6_ok, en_PTX6_ok, en_an, en_LTX6_ok, en_LLX6_ok, en_TTX6_ok hl, ⟨cw256, cw147⟩, en_ACX6_ok⟩ de_X6_edition ck_X6_edition_0
def tb_X6_isOnFreeKind : en_Tb := [
  (31, [(0, .aload_n 0, 1), (1, .getfield 11, 3), (4, .aload_n 0, 1), (5, .getfield 170, 3), (8, .aaload, 1), (9, .aload_n 1, 1), (10, .getfield 211, 3), (13, .invokevirtual 118, 3), (16, .istore_n 2, 1), (17, .aload_n 1, 1), (18, .invokevirtual 294, 3), (21, .ifCond .eq 19, 3), (24, .iload_n 2, 1), (25, .bipush 119, 2), (27, .if_icmp .eq 9, 3), (30, .iload_n 2, 1)]), 
  (42, [(31, .bipush 112, 2), (33, .if_icmp .ne 7, 3), (36, .iconst 1, 1), (37, .goto 4, 3), (40, .iconst 0, 1), (41, .ireturn, 1)])]
set_option maxRecDepth 40000 in
theorem de_X6_isOnFreeKind : en_De tb_X6_isOnFreeKind cX6_isOnFreeKind := by
  unfold en_De
  decide +kernel
def k_X6_isOnFreeKind_0 : en_K := (2, ([.inr (.inl 0), .inr (.inl 8)], []), [([.inr (.inl 0), .inr (.inl 8), .inl (0, 0, 0, 0)], []), ([.inr (.inl 0), .inr (.inl 8), .inl (1, 1, 0, 0)], [])], [], [0, 1, 5, 6, 8], (0, 0), [])
def u_X6_isOnFreeKind_0 : List en_U := []
def x_X6_isOnFreeKind_0 : en_Cx := ((en_KT, en_TY0, en_om0), en_FTX6, en_PTX6, [(118, true, 9, 0, 0, k_X3_kindOf_0), (294, true, 6, 0, 0, k_X0_isAtRest_0)], en_LTX6, en_LLX6, en_TTX6, en_ACX6)
def m_X6_isOnFreeKind_0 : en_Mx := (k_X6_isOnFreeKind_0, 1, 3, (0, 2), tb_X6_isOnFreeKind, [])
set_option maxRecDepth 100000 in
theorem ck_X6_isOnFreeKind_0 : en_all x_X6_isOnFreeKind_0 m_X6_isOnFreeKind_0 u_X6_isOnFreeKind_0 24 = true := by decide +kernel
theorem ct_X6_isOnFreeKind_0 {l : Launch} (hl : l.stackTraces = false) {PP : Int32 → Int32 → Prop} (hPP : en_P0 PP) (Ω : Nat → en_H → va_W → Prop) : en_Ctr l vwCl en_TY0 PP en_om0 Ω en_KT yX6_isOnFreeKind (Cond.code yX6_isOnFreeKind cX6_isOnFreeKind 3 (some .boolean) :: en_cw) (en_rm 1 (0, 0)) 0 k_X6_isOnFreeKind_0 :=
  en_main (X := x_X6_isOnFreeKind_0) (M := m_X6_isOnFreeKind_0) hPP en_f32_ok en_f64_ok hl (by decide +kernel) ⟨en_FTX6_ok, en_PTX6_ok, en_ac (⟨yX3_kindOf, RX3, cX3_kindOf, 2, (some .char), by decide, ct_X3_kindOf_0 hl hPP Ω, fun _ => ⟨gc_RX6_118v, by decide, _, rfl, rfl⟩, fun h => Bool.noConfusion h⟩) (en_ac (⟨yX0_isAtRest, RX0, cX0_isAtRest, 1, (some .boolean), by decide, ct_X0_isAtRest_0 hl hPP Ω, fun _ => ⟨gc_RX6_294v, by decide, _, rfl, rfl⟩, fun h => Bool.noConfusion h⟩) en_an), en_LTX6_ok, en_LLX6_ok, en_TTX6_ok hl, ⟨cw256, cw147⟩, en_ACX6_ok⟩ de_X6_isOnFreeKind ck_X6_isOnFreeKind_0
def tb_X3_isFreeGround : en_Tb := [
  (24, [(0, .aload_n 0, 1), (1, .iload_n 1, 1), (2, .invokevirtual 30, 3), (5, .bipush 46, 2), (7, .if_icmp .ne 15, 3), (10, .iload_n 1, 1), (11, .aload_n 0, 1), (12, .getfield 27, 3), (15, .if_icmp .eq 7, 3), (18, .iconst 1, 1), (19, .goto 4, 3), (22, .iconst 0, 1), (23, .ireturn, 1)])]
set_option maxRecDepth 40000 in
theorem de_X3_isFreeGround : en_De tb_X3_isFreeGround cX3_isFreeGround := by
  unfold en_De
  decide +kernel
def k_X3_isFreeGround_0 : en_K := (2, ([.inr (.inl 5), .inl ((-2147483648), 2147483647, 0, 0)], []), [([.inr (.inl 5), .inl ((-2147483648), 2147483647, 0, 0), .inl (0, 0, 0, 0)], []), ([.inr (.inl 5), .inl ((-2147483648), 2147483647, 0, 0), .inl (1, 1, 0, 0)], [])], [], [5, 6], (0, 0), [])
def u_X3_isFreeGround_0 : List en_U := []
def x_X3_isFreeGround_0 : en_Cx := ((en_KT, en_TY0, en_om0), en_FTX3, en_PTX3, [(30, true, 9, 0, 0, k_X3_kindOf_0)], en_LTX3, en_LLX3, en_TTX3, en_ACX3)
def m_X3_isFreeGround_0 : en_Mx := (k_X3_isFreeGround_0, 1, 2, (0, 2), tb_X3_isFreeGround, [])
set_option maxRecDepth 100000 in
theorem ck_X3_isFreeGround_0 : en_all x_X3_isFreeGround_0 m_X3_isFreeGround_0 u_X3_isFreeGround_0 15 = true := by decide +kernel
theorem ct_X3_isFreeGround_0 {l : Launch} (hl : l.stackTraces = false) {PP : Int32 → Int32 → Prop} (hPP : en_P0 PP) (Ω : Nat → en_H → va_W → Prop) : en_Ctr l vwCl en_TY0 PP en_om0 Ω en_KT yX3_isFreeGround (Cond.code yX3_isFreeGround cX3_isFreeGround 2 (some .boolean) :: en_cw) (en_rm 1 (0, 0)) 0 k_X3_isFreeGround_0 :=
  en_main (X := x_X3_isFreeGround_0) (M := m_X3_isFreeGround_0) hPP en_f32_ok en_f64_ok hl (by decide +kernel) ⟨en_FTX3_ok, en_PTX3_ok, en_ac (⟨yX3_kindOf, RX3, cX3_kindOf, 2, (some .char), by decide, ct_X3_kindOf_0 hl hPP Ω, fun _ => ⟨gc_RX3_30v, by decide, _, rfl, rfl⟩, fun h => Bool.noConfusion h⟩) en_an, en_LTX3_ok, en_LLX3_ok, en_TTX3_ok hl, ⟨cw256, cw147⟩, en_ACX3_ok⟩ de_X3_isFreeGround ck_X3_isFreeGround_0
def tb_X3_isFreeFrom : en_Tb := [
  (32, [(0, .aload_n 0, 1), (1, .iload_n 2, 1), (2, .invokevirtual 57, 3), (5, .ifCond .eq 26, 3), (8, .iload_n 2, 1), (9, .aload_n 0, 1), (10, .getfield 27, 3), (13, .invokestatic 34, 3), (16, .iload_n 1, 1), (17, .aload_n 0, 1), (18, .getfield 27, 3), (21, .invokestatic 34, 3), (24, .if_icmp .lt 7, 3), (27, .iconst 1, 1), (28, .goto 4, 3), (31, .iconst 0, 1)]), 
  (33, [(32, .ireturn, 1)])]
set_option maxRecDepth 40000 in
theorem de_X3_isFreeFrom : en_De tb_X3_isFreeFrom cX3_isFreeFrom := by
  unfold en_De
  decide +kernel
def k_X3_isFreeFrom_0 : en_K := (3, ([.inr (.inl 5), .inl ((-2147483648), 2147483647, 0, 0), .inl ((-2147483648), 2147483647, 0, 0)], []), [([.inr (.inl 5), .inl ((-2147483648), 2147483647, 0, 0), .inl ((-2147483648), 2147483647, 0, 0), .inl (0, 0, 0, 0)], []), ([.inr (.inl 5), .inl ((-2147483648), 2147483647, 0, 0), .inl ((-2147483648), 2147483647, 0, 0), .inl (1, 1, 0, 0)], [])], [], [5, 6], (0, 0), [])
def u_X3_isFreeFrom_0 : List en_U := []
def x_X3_isFreeFrom_0 : en_Cx := ((en_KT, en_TY0, en_om0), en_FTX3, en_PTX3, [(34, false, 0, 0, 0, k_X6_distance_0), (57, true, 9, 0, 1, k_X3_isFreeGround_0)], en_LTX3, en_LLX3, en_TTX3, en_ACX3)
def m_X3_isFreeFrom_0 : en_Mx := (k_X3_isFreeFrom_0, 2, 3, (0, 2), tb_X3_isFreeFrom, [])
set_option maxRecDepth 100000 in
theorem ck_X3_isFreeFrom_0 : en_all x_X3_isFreeFrom_0 m_X3_isFreeFrom_0 u_X3_isFreeFrom_0 19 = true := by decide +kernel
theorem ct_X3_isFreeFrom_0 {l : Launch} (hl : l.stackTraces = false) {PP : Int32 → Int32 → Prop} (hPP : en_P0 PP) (Ω : Nat → en_H → va_W → Prop) : en_Ctr l vwCl en_TY0 PP en_om0 Ω en_KT yX3_isFreeFrom (Cond.code yX3_isFreeFrom cX3_isFreeFrom 3 (some .boolean) :: en_cw) (en_rm 2 (0, 0)) 0 k_X3_isFreeFrom_0 :=
  en_main (X := x_X3_isFreeFrom_0) (M := m_X3_isFreeFrom_0) hPP en_f32_ok en_f64_ok hl (by decide +kernel) ⟨en_FTX3_ok, en_PTX3_ok, en_ac (⟨yX6_distance, RX6, cX6_distance, 4, (some .int), by decide, ct_X6_distance_0 hl hPP Ω, fun h => Bool.noConfusion h, fun _ => gc_RX3_34s⟩) (en_ac (⟨yX3_isFreeGround, RX3, cX3_isFreeGround, 2, (some .boolean), by decide, ct_X3_isFreeGround_0 hl hPP Ω, fun _ => ⟨gc_RX3_57v, by decide, _, rfl, rfl⟩, fun h => Bool.noConfusion h⟩) en_an), en_LTX3_ok, en_LLX3_ok, en_TTX3_ok hl, ⟨cw256, cw147⟩, en_ACX3_ok⟩ de_X3_isFreeFrom ck_X3_isFreeFrom_0
def tb_X3_nearestPoint : en_Tb := [
  (27, [(0, .iconst (-1), 1), (1, .istore_n 2, 1), (2, .iconst 0, 1), (3, .istore_n 3, 1), (4, .iconst 0, 1), (5, .istore 4, 2), (7, .iload 4, 2), (9, .sipush 600, 3), (12, .if_icmp .ge 44, 3), (15, .aload_n 0, 1), (16, .iload_n 1, 1), (17, .iload 4, 2), (19, .invokevirtual 60, 3), (22, .ifCond .eq 28, 3), (25, .iload_n 1, 1), (26, .iload 4, 2)]), 
  (58, [(28, .invokestatic 34, 3), (31, .istore 5, 2), (33, .iload_n 2, 1), (34, .iconst (-1), 1), (35, .if_icmp .eq 9, 3), (38, .iload 5, 2), (40, .iload_n 3, 1), (41, .if_icmp .ge 9, 3), (44, .iload 4, 2), (46, .istore_n 2, 1), (47, .iload 5, 2), (49, .istore_n 3, 1), (50, .iinc 4 1, 3), (53, .goto (-46), 3), (56, .iload_n 2, 1), (57, .ireturn, 1)])]
set_option maxRecDepth 40000 in
theorem de_X3_nearestPoint : en_De tb_X3_nearestPoint cX3_nearestPoint := by
  unfold en_De
  decide +kernel
def k_X3_nearestPoint_0 : en_K := (2, ([.inr (.inl 5), .inl ((-2147483648), 2147483647, 0, 0)], []), [([.inr (.inl 5), .inl ((-2147483648), 2147483647, 0, 0), .inl ((-1), 600, 0, 0)], [])], [], [5, 6], (0, 0), [])
def u_X3_nearestPoint_0 : List en_U := [
  (7, ([.inr (.inl 5), .inl ((-2147483648), 2147483647, 0, 0), .inl (0, 600, 0, 0), .inl ((-2147483648), 2147483647, 0, 0), .inl ((-1), 600, 0, 0)], []), [(0, 0), (1, 1), (4, 2), (3, 3), (2, 4)], (0, 0), [((-2), 2)], 1204)]
def x_X3_nearestPoint_0 : en_Cx := ((en_KT, en_TY0, en_om0), en_FTX3, en_PTX3, [(34, false, 0, 0, 0, k_X6_distance_0), (60, true, 9, 0, 2, k_X3_isFreeFrom_0)], en_LTX3, en_LLX3, en_TTX3, en_ACX3)
def m_X3_nearestPoint_0 : en_Mx := (k_X3_nearestPoint_0, 3, 6, (0, 0), tb_X3_nearestPoint, [])
set_option maxRecDepth 100000 in
theorem ck_X3_nearestPoint_0 : en_all x_X3_nearestPoint_0 m_X3_nearestPoint_0 u_X3_nearestPoint_0 27 = true := by decide +kernel
theorem ct_X3_nearestPoint_0 {l : Launch} (hl : l.stackTraces = false) {PP : Int32 → Int32 → Prop} (hPP : en_P0 PP) (Ω : Nat → en_H → va_W → Prop) : en_Ctr l vwCl en_TY0 PP en_om0 Ω en_KT yX3_nearestPoint (Cond.code yX3_nearestPoint cX3_nearestPoint 6 (some .int) :: en_cw) (en_rm 3 (0, 0)) 0 k_X3_nearestPoint_0 :=
  en_main (X := x_X3_nearestPoint_0) (M := m_X3_nearestPoint_0) hPP en_f32_ok en_f64_ok hl (by decide +kernel) ⟨en_FTX3_ok, en_PTX3_ok, en_ac (⟨yX6_distance, RX6, cX6_distance, 4, (some .int), by decide, ct_X6_distance_0 hl hPP Ω, fun h => Bool.noConfusion h, fun _ => gc_RX3_34s⟩) (en_ac (⟨yX3_isFreeFrom, RX3, cX3_isFreeFrom, 3, (some .boolean), by decide, ct_X3_isFreeFrom_0 hl hPP Ω, fun _ => ⟨gc_RX3_60v, by decide, _, rfl, rfl⟩, fun h => Bool.noConfusion h⟩) en_an), en_LTX3_ok, en_LLX3_ok, en_TTX3_ok hl, ⟨cw256, cw147⟩, en_ACX3_ok⟩ de_X3_nearestPoint ck_X3_nearestPoint_0
def tb_X6_free : en_Tb := [
  (27, [(0, .aload_n 0, 1), (1, .iload_n 1, 1), (2, .invokevirtual 127, 3), (5, .iload_n 2, 1), (6, .iload_n 3, 1), (7, .invokestatic 114, 3), (10, .aload_n 0, 1), (11, .invokevirtual 167, 3), (14, .aload_n 0, 1), (15, .getfield 18, 3), (18, .iload_n 1, 1), (19, .aaload, 1), (20, .getfield 185, 3), (23, .astore 4, 2), (25, .aload_n 0, 1), (26, .getfield 11, 3)]), 
  (60, [(29, .aload_n 0, 1), (30, .getfield 170, 3), (33, .aaload, 1), (34, .astore 5, 2), (36, .iload_n 2, 1), (37, .iload_n 3, 1), (38, .invokestatic 85, 3), (41, .istore 6, 2), (43, .aload_n 0, 1), (44, .aload 4, 2), (46, .invokevirtual 310, 3), (49, .ifCond .eq 13, 3), (52, .aload 5, 2), (54, .iload 6, 2), (56, .invokevirtual 321, 3), (59, .ifCond .ne 14, 3)]), 
  (96, [(62, .new 74, 3), (65, .dup, 1), (66, .ldc_w 314, 3), (69, .invokespecial 78, 3), (72, .athrow, 1), (73, .aload 5, 2), (75, .aload 4, 2), (77, .getfield 211, 3), (80, .invokevirtual 316, 3), (83, .istore 7, 2), (85, .iload 7, 2), (87, .iconst (-1), 1), (88, .if_icmp .ne 14, 3), (91, .new 177, 3), (94, .dup, 1), (95, .ldc_w 319, 3)]), 
  (133, [(98, .invokespecial 181, 3), (101, .athrow, 1), (102, .aload 5, 2), (104, .iload 7, 2), (106, .iload 6, 2), (108, .invokevirtual 324, 3), (111, .ifCond .eq 14, 3), (114, .iload 7, 2), (116, .iload 6, 2), (118, .invokestatic 327, 3), (121, .iconst 1, 1), (122, .if_icmp .le 14, 3), (125, .new 74, 3), (128, .dup, 1), (129, .ldc_w 330, 3), (132, .invokespecial 78, 3)]), 
  (169, [(135, .athrow, 1), (136, .aload 5, 2), (138, .aload 4, 2), (140, .getfield 211, 3), (143, .invokevirtual 118, 3), (146, .istore 8, 2), (148, .aload_n 0, 1), (149, .getfield 30, 3), (152, .iconst (-1), 1), (153, .putfield 193, 3), (156, .aload 4, 2), (158, .iload 6, 2), (160, .aload 5, 2), (162, .getfield 92, 3), (165, .invokevirtual 332, 3), (168, .iload 8, 2)]), 
  (171, [(170, .ireturn, 1)])]
set_option maxRecDepth 40000 in
theorem de_X6_free : en_De tb_X6_free cX6_free := by
  unfold en_De
  decide +kernel
def k_X6_free_0 : en_K := (4, ([.inr (.inl 0), .inl ((-2147483648), 2147483647, 0, 0), .inl ((-2147483648), 2147483647, 0, 0), .inl ((-2147483648), 2147483647, 0, 0)], []), [([.inr (.inl 0), .inl (0, 5, 0, 0), .inl (0, 29, 0, 0), .inl (0, 19, 0, 0), .inl (0, 65535, 0, 0)], [])], [(4, 1), (8, 0), (8, 1), (8, 2), (8, 7), (8, 9)], [0, 1, 2, 4, 5, 6, 7, 8], (4, 24), [1, 2, 3, 4])
def u_X6_free_0 : List en_U := []
def x_X6_free_0 : en_Cx := ((en_KT, en_TY0, en_om0), en_FTX6, en_PTX6, [(85, false, 0, 0, 0, k_X6_cellAt_0), (114, false, 0, 4, 1, k_X6_needCell_0), (118, true, 9, 0, 0, k_X3_kindOf_0), (127, true, 12, 4, 0, k_X6_needPlayer_0), (167, true, 12, 4, 0, k_X6_needRound_0), (310, true, 12, 0, 1, k_X6_isOnFreeKind_0), (316, true, 9, 0, 3, k_X3_nearestPoint_0), (321, true, 9, 0, 1, k_X3_isFreeGround_0), (324, true, 9, 0, 2, k_X3_isFreeFrom_0), (327, false, 0, 0, 0, k_X6_distance_0), (332, true, 6, 4, 0, k_X0_putByRelief_0)], en_LTX6, en_LLX6, en_TTX6, en_ACX6)
def m_X6_free_0 : en_Mx := (k_X6_free_0, 4, 9, (0, 1), tb_X6_free, [])
set_option maxRecDepth 100000 in
theorem ck_X6_free_0 : en_all x_X6_free_0 m_X6_free_0 u_X6_free_0 69 = true := by decide +kernel
theorem ct_X6_free_0 {l : Launch} (hl : l.stackTraces = false) {PP : Int32 → Int32 → Prop} (hPP : en_P0 PP) (Ω : Nat → en_H → va_W → Prop) : en_Ctr l vwCl en_TY0 PP en_om0 Ω en_KT yX6_free (Cond.code yX6_free cX6_free 9 (some .char) :: en_cw) (en_rm 4 (4, 24)) 0 k_X6_free_0 :=
  en_main (X := x_X6_free_0) (M := m_X6_free_0) hPP en_f32_ok en_f64_ok hl (by decide +kernel) ⟨en_FTX6_ok, en_PTX6_ok, en_ac (⟨yX6_cellAt, RX6, cX6_cellAt, 2, (some .int), by decide, ct_X6_cellAt_0 hl hPP Ω, fun h => Bool.noConfusion h, fun _ => gc_RX6_85s⟩) (en_ac (⟨yX6_needCell, RX6, cX6_needCell, 2, none, by decide, ct_X6_needCell_0 hl hPP Ω, fun h => Bool.noConfusion h, fun _ => gc_RX6_114s⟩) (en_ac (⟨yX3_kindOf, RX3, cX3_kindOf, 2, (some .char), by decide, ct_X3_kindOf_0 hl hPP Ω, fun _ => ⟨gc_RX6_118v, by decide, _, rfl, rfl⟩, fun h => Bool.noConfusion h⟩) (en_ac (⟨yX6_needPlayer, RX6, cX6_needPlayer, 2, none, by decide, ct_X6_needPlayer_0 hl hPP Ω, fun _ => ⟨gc_RX6_127v, by decide, _, rfl, rfl⟩, fun h => Bool.noConfusion h⟩) (en_ac (⟨yX6_needRound, RX6, cX6_needRound, 1, none, by decide, ct_X6_needRound_0 hl hPP Ω, fun _ => ⟨gc_RX6_167v, by decide, _, rfl, rfl⟩, fun h => Bool.noConfusion h⟩) (en_ac (⟨yX6_isOnFreeKind, RX6, cX6_isOnFreeKind, 3, (some .boolean), by decide, ct_X6_isOnFreeKind_0 hl hPP Ω, fun _ => ⟨gc_RX6_310v, by decide, _, rfl, rfl⟩, fun h => Bool.noConfusion h⟩) (en_ac (⟨yX3_nearestPoint, RX3, cX3_nearestPoint, 6, (some .int), by decide, ct_X3_nearestPoint_0 hl hPP Ω, fun _ => ⟨gc_RX6_316v, by decide, _, rfl, rfl⟩, fun h => Bool.noConfusion h⟩) (en_ac (⟨yX3_isFreeGround, RX3, cX3_isFreeGround, 2, (some .boolean), by decide, ct_X3_isFreeGround_0 hl hPP Ω, fun _ => ⟨gc_RX6_321v, by decide, _, rfl, rfl⟩, fun h => Bool.noConfusion h⟩) (en_ac (⟨yX3_isFreeFrom, RX3, cX3_isFreeFrom, 3, (some .boolean), by decide, ct_X3_isFreeFrom_0 hl hPP Ω, fun _ => ⟨gc_RX6_324v, by decide, _, rfl, rfl⟩, fun h => Bool.noConfusion h⟩) (en_ac (⟨yX6_distance, RX6, cX6_distance, 4, (some .int), by decide, ct_X6_distance_0 hl hPP Ω, fun h => Bool.noConfusion h, fun _ => gc_RX6_327s⟩) (en_ac (⟨yX0_putByRelief, RX0, cX0_putByRelief, 3, none, by decide, ct_X0_putByRelief_0 hl hPP Ω, fun _ => ⟨gc_RX6_332v, by decide, _, rfl, rfl⟩, fun h => Bool.noConfusion h⟩) en_an)))))))))), en_LTX6_ok, en_LLX6_ok, en_TTX6_ok hl, ⟨cw256, cw147⟩, en_ACX6_ok⟩ de_X6_free ck_X6_free_0
