def tb_X7_far : en_Tb := [
  (16, [(0, .iload_n 0, 1), (1, .iload_n 2, 1), (2, .isub, 1), (3, .iload_n 0, 1), (4, .iload_n 2, 1), (5, .isub, 1), (6, .imul, 1), (7, .iload_n 1, 1), (8, .iload_n 3, 1), (9, .isub, 1), (10, .iload_n 1, 1), (11, .iload_n 3, 1), (12, .isub, 1), (13, .imul, 1), (14, .iadd, 1), (15, .ireturn, 1)])]
set_option maxRecDepth 40000 in
theorem de_X7_far : en_De tb_X7_far cX7_far := by
  unfold en_De
  decide +kernel
def k_X7_far_0 : en_K := (4, ([.inl ((-2147483648), 2147483647, 0, 0), .inl ((-2147483648), 2147483647, 0, 0), .inl ((-2147483648), 2147483647, 0, 0), .inl ((-2147483648), 2147483647, 0, 0)], [(5, 0, 0, 0, 0, 0)]), [([.inl ((-2147483648), 2147483647, 0, 0), .inl ((-2147483648), 2147483647, 0, 0), .inl ((-2147483648), 2147483647, 0, 0), .inl ((-2147483648), 2147483647, 0, 0), .inl ((-2147483648), 2147483647, 0, 0)], [(5, 0, 0, 0, 0, 0)])], [], [], (0, 0), [])
def u_X7_far_0 : List en_U := []
def x_X7_far_0 : en_Cx := ((en_KT, en_TY0, en_om0), en_FTX7, en_PTX7, [], en_LTX7, en_LLX7, en_TTX7, en_ACX7)
def m_X7_far_0 : en_Mx := (k_X7_far_0, 0, 4, (0, 0), tb_X7_far, [])
set_option maxRecDepth 100000 in
theorem ck_X7_far_0 : en_all x_X7_far_0 m_X7_far_0 u_X7_far_0 19 = true := by decide +kernel
theorem ct_X7_far_0 {l : Launch} (hl : l.stackTraces = false) {cx cy : Int32} : en_Ctr l vwCl en_TY0 (en_Pc cx cy) en_om0 (en_Of cx cy) en_KT yX7_far (Cond.code yX7_far cX7_far 4 (some .int) :: en_cw) (en_rm 0 (0, 0)) 0 k_X7_far_0 :=
  en_main (X := x_X7_far_0) (M := m_X7_far_0) en_Pc_ok en_f32_ok en_f64_ok hl (by decide +kernel) ⟨en_FTX7_ok, en_PTX7_ok, en_an, en_LTX7_ok, en_LLX7_ok, en_TTX7_ok hl, ⟨cw256, cw147⟩, en_ACX7_ok⟩ de_X7_far ck_X7_far_0
def tb_X7_toCup : en_Tb := [
  (14, [(0, .iload_n 1, 1), (1, .iload_n 2, 1), (2, .aload_n 0, 1), (3, .invokevirtual 95, 3), (6, .aload_n 0, 1), (7, .invokevirtual 99, 3), (10, .invokestatic 102, 3), (13, .ireturn, 1)])]
set_option maxRecDepth 40000 in
theorem de_X7_toCup : en_De tb_X7_toCup cX7_toCup := by
  unfold en_De
  decide +kernel
def k_X7_toCup_0 : en_K := (3, ([.inr (.inl 20), .inl ((-2147483648), 2147483647, 0, 0), .inl ((-2147483648), 2147483647, 0, 0), .inl (0, 8, 0, 0)], [(0, 0, 25, 3, 0, 0), (5, 0, 0, 0, 0, 0)]), [([.inr (.inl 20), .inl ((-2147483648), 2147483647, 0, 0), .inl ((-2147483648), 2147483647, 0, 0), .inl ((-2147483648), 2147483647, 0, 0)], [(5, 0, 0, 0, 0, 0)])], [], [20, 21, 22], (0, 0), [])
def u_X7_toCup_0 : List en_U := []
def x_X7_toCup_0 : en_Cx := ((en_KT, en_TY0, en_om0), en_FTX7, en_PTX7, [(95, true, 13, 0, 0, k_X7_cupX_h), (99, true, 13, 0, 0, k_X7_cupY_h), (102, false, 0, 0, 0, k_X7_far_0)], en_LTX7, en_LLX7, en_TTX7, en_ACX7)
def m_X7_toCup_0 : en_Mx := (k_X7_toCup_0, 1, 3, (0, 0), tb_X7_toCup, [])
set_option maxRecDepth 100000 in
theorem ck_X7_toCup_0 : en_all x_X7_toCup_0 m_X7_toCup_0 u_X7_toCup_0 11 = true := by decide +kernel
theorem ct_X7_toCup_0 {l : Launch} (hl : l.stackTraces = false) {cx cy : Int32} : en_Ctr l vwCl en_TY0 (en_Pc cx cy) en_om0 (en_Of cx cy) en_KT yX7_toCup (Cond.code yX7_toCup cX7_toCup 3 (some .int) :: en_cw) (en_rm 1 (0, 0)) 0 k_X7_toCup_0 :=
  en_main (X := x_X7_toCup_0) (M := m_X7_toCup_0) en_Pc_ok en_f32_ok en_f64_ok hl (by decide +kernel) ⟨en_FTX7_ok, en_PTX7_ok, en_ac (⟨yX7_cupX, RX7, cX7_cupX, 1, (some .int), by decide, ct_X7_cupX_h hl, fun _ => ⟨gc_RX7_95v, by decide, _, rfl, rfl⟩, fun h => Bool.noConfusion h⟩) (en_ac (⟨yX7_cupY, RX7, cX7_cupY, 1, (some .int), by decide, ct_X7_cupY_h hl, fun _ => ⟨gc_RX7_99v, by decide, _, rfl, rfl⟩, fun h => Bool.noConfusion h⟩) (en_ac (⟨yX7_far, RX7, cX7_far, 4, (some .int), by decide, ct_X7_far_0 hl, fun h => Bool.noConfusion h, fun _ => gc_RX7_102s⟩) en_an)), en_LTX7_ok, en_LLX7_ok, en_TTX7_ok hl, ⟨cw256, cw147⟩, en_ACX7_ok⟩ de_X7_toCup ck_X7_toCup_0
def k_X7_isIn_27 : en_K := (3, ([.inl (0, 29, 0, 0), .inl (0, 0, 0, 0), .inl (29, 29, 0, 0)], [(5, 0, 0, 0, 0, 0)]), [([.inl (0, 29, 0, 0), .inl (0, 0, 0, 0), .inl (29, 29, 0, 0), .inl (1, 1, 0, 0)], [(5, 0, 0, 0, 0, 0)])], [], [], (0, 0), [])
def u_X7_isIn_27 : List en_U := []
def x_X7_isIn_27 : en_Cx := ((en_KT, en_TY0, en_om0), en_FTX7, en_PTX7, [], en_LTX7, en_LLX7, en_TTX7, en_ACX7)
def m_X7_isIn_27 : en_Mx := (k_X7_isIn_27, 0, 3, (0, 2), tb_X7_isIn, [])
set_option maxRecDepth 100000 in
theorem ck_X7_isIn_27 : en_all x_X7_isIn_27 m_X7_isIn_27 u_X7_isIn_27 12 = true := by decide +kernel
theorem ct_X7_isIn_27 {l : Launch} (hl : l.stackTraces = false) {cx cy : Int32} : en_Ctr l vwCl en_TY0 (en_Pc cx cy) en_om0 (en_Of cx cy) en_KT yX7_isIn (Cond.code yX7_isIn cX7_isIn 3 (some .boolean) :: en_cw) (en_rm 0 (0, 0)) 0 k_X7_isIn_27 :=
  en_main (X := x_X7_isIn_27) (M := m_X7_isIn_27) en_Pc_ok en_f32_ok en_f64_ok hl (by decide +kernel) ⟨en_FTX7_ok, en_PTX7_ok, en_an, en_LTX7_ok, en_LLX7_ok, en_TTX7_ok hl, ⟨cw256, cw147⟩, en_ACX7_ok⟩ de_X7_isIn ck_X7_isIn_27
def k_X7_isIn_28 : en_K := (3, ([.inl (0, 19, 0, 0), .inl (0, 0, 0, 0), .inl (19, 19, 0, 0)], [(5, 0, 0, 0, 0, 0)]), [([.inl (0, 19, 0, 0), .inl (0, 0, 0, 0), .inl (19, 19, 0, 0), .inl (1, 1, 0, 0)], [(5, 0, 0, 0, 0, 0)])], [], [], (0, 0), [])
def u_X7_isIn_28 : List en_U := []
def x_X7_isIn_28 : en_Cx := ((en_KT, en_TY0, en_om0), en_FTX7, en_PTX7, [], en_LTX7, en_LLX7, en_TTX7, en_ACX7)
def m_X7_isIn_28 : en_Mx := (k_X7_isIn_28, 0, 3, (0, 2), tb_X7_isIn, [])
set_option maxRecDepth 100000 in
theorem ck_X7_isIn_28 : en_all x_X7_isIn_28 m_X7_isIn_28 u_X7_isIn_28 12 = true := by decide +kernel
theorem ct_X7_isIn_28 {l : Launch} (hl : l.stackTraces = false) {cx cy : Int32} : en_Ctr l vwCl en_TY0 (en_Pc cx cy) en_om0 (en_Of cx cy) en_KT yX7_isIn (Cond.code yX7_isIn cX7_isIn 3 (some .boolean) :: en_cw) (en_rm 0 (0, 0)) 0 k_X7_isIn_28 :=
  en_main (X := x_X7_isIn_28) (M := m_X7_isIn_28) en_Pc_ok en_f32_ok en_f64_ok hl (by decide +kernel) ⟨en_FTX7_ok, en_PTX7_ok, en_an, en_LTX7_ok, en_LLX7_ok, en_TTX7_ok hl, ⟨cw256, cw147⟩, en_ACX7_ok⟩ de_X7_isIn ck_X7_isIn_28
def k_X7_isCell_2 : en_K := (2, ([.inl (0, 29, 0, 0), .inl (0, 19, 0, 0)], [(5, 0, 0, 0, 0, 0)]), [([.inl (0, 29, 0, 0), .inl (0, 19, 0, 0), .inl (1, 1, 0, 0)], [(5, 0, 0, 0, 0, 0)])], [], [], (0, 0), [])
def u_X7_isCell_2 : List en_U := []
def x_X7_isCell_2 : en_Cx := ((en_KT, en_TY0, en_om0), en_FTX7, en_PTX7, [(82, false, 0, 0, 0, k_X7_isIn_28), (82, false, 0, 0, 0, k_X7_isIn_27)], en_LTX7, en_LLX7, en_TTX7, en_ACX7)
def m_X7_isCell_2 : en_Mx := (k_X7_isCell_2, 1, 2, (0, 2), tb_X7_isCell, [])
set_option maxRecDepth 100000 in
theorem ck_X7_isCell_2 : en_all x_X7_isCell_2 m_X7_isCell_2 u_X7_isCell_2 16 = true := by decide +kernel
theorem ct_X7_isCell_2 {l : Launch} (hl : l.stackTraces = false) {cx cy : Int32} : en_Ctr l vwCl en_TY0 (en_Pc cx cy) en_om0 (en_Of cx cy) en_KT yX7_isCell (Cond.code yX7_isCell cX7_isCell 2 (some .boolean) :: en_cw) (en_rm 1 (0, 0)) 0 k_X7_isCell_2 :=
  en_main (X := x_X7_isCell_2) (M := m_X7_isCell_2) en_Pc_ok en_f32_ok en_f64_ok hl (by decide +kernel) ⟨en_FTX7_ok, en_PTX7_ok, en_ac (⟨yX7_isIn, RX7, cX7_isIn, 3, (some .boolean), by decide, ct_X7_isIn_28 hl, fun h => Bool.noConfusion h, fun _ => gc_RX7_82s⟩) (en_ac (⟨yX7_isIn, RX7, cX7_isIn, 3, (some .boolean), by decide, ct_X7_isIn_27 hl, fun h => Bool.noConfusion h, fun _ => gc_RX7_82s⟩) en_an), en_LTX7_ok, en_LLX7_ok, en_TTX7_ok hl, ⟨cw256, cw147⟩, en_ACX7_ok⟩ de_X7_isCell ck_X7_isCell_2
def tb_X7_isAllowed : en_Tb := [
  (28, [(0, .iload_n 1, 1), (1, .iload_n 2, 1), (2, .invokestatic 106, 3), (5, .ifCond .eq 49, 3), (8, .aload_n 0, 1), (9, .iload_n 1, 1), (10, .iload_n 2, 1), (11, .invokevirtual 175, 3), (14, .bipush 121, 2), (16, .if_icmp .eq 38, 3), (19, .aload_n 0, 1), (20, .iload_n 1, 1), (21, .iload_n 2, 1), (22, .invokevirtual 175, 3), (25, .bipush 114, 2), (27, .if_icmp .eq 27, 3)]), 
  (56, [(30, .aload_n 0, 1), (31, .iload_n 1, 1), (32, .iload_n 2, 1), (33, .invokevirtual 175, 3), (36, .bipush 111, 2), (38, .if_icmp .eq 16, 3), (41, .aload_n 0, 1), (42, .iload_n 1, 1), (43, .iload_n 2, 1), (44, .invokevirtual 187, 3), (47, .ifCond .ne 7, 3), (50, .iconst 1, 1), (51, .goto 4, 3), (54, .iconst 0, 1), (55, .ireturn, 1)])]
set_option maxRecDepth 40000 in
theorem de_X7_isAllowed : en_De tb_X7_isAllowed cX7_isAllowed := by
  unfold en_De
  decide +kernel
def k_X7_isAllowed_0 : en_K := (3, ([.inr (.inl 20), .inl (0, 29, 0, 0), .inl (0, 19, 0, 0), .inl (0, 8, 0, 0)], [(0, 0, 25, 3, 0, 0), (5, 0, 0, 0, 0, 0)]), [([.inr (.inl 20), .inl (0, 29, 0, 0), .inl (0, 19, 0, 0), .inl (0, 0, 0, 0)], [(5, 0, 0, 0, 0, 0)]), ([.inr (.inl 20), .inl (0, 29, 0, 0), .inl (0, 19, 0, 0), .inl (1, 1, 0, 0)], [(2, 1, 2, 0, 0, 0), (5, 0, 0, 0, 0, 0)])], [], [20, 21, 22, 23, 24], (0, 0), [])
def u_X7_isAllowed_0 : List en_U := []
def x_X7_isAllowed_0 : en_Cx := ((en_KT, en_TY0, en_om0), en_FTX7, en_PTX7, [(106, false, 0, 0, 1, k_X7_isCell_2), (175, true, 13, 0, 0, k_X7_kind_0), (187, true, 13, 0, 1, k_X7_isCup_h)], en_LTX7, en_LLX7, en_TTX7, en_ACX7)
def m_X7_isAllowed_0 : en_Mx := (k_X7_isAllowed_0, 2, 3, (0, 2), tb_X7_isAllowed, [])
set_option maxRecDepth 100000 in
theorem ck_X7_isAllowed_0 : en_all x_X7_isAllowed_0 m_X7_isAllowed_0 u_X7_isAllowed_0 33 = true := by decide +kernel
theorem ct_X7_isAllowed_0 {l : Launch} (hl : l.stackTraces = false) {cx cy : Int32} : en_Ctr l vwCl en_TY0 (en_Pc cx cy) en_om0 (en_Of cx cy) en_KT yX7_isAllowed (Cond.code yX7_isAllowed cX7_isAllowed 3 (some .boolean) :: en_cw) (en_rm 2 (0, 0)) 0 k_X7_isAllowed_0 :=
  en_main (X := x_X7_isAllowed_0) (M := m_X7_isAllowed_0) en_Pc_ok en_f32_ok en_f64_ok hl (by decide +kernel) ⟨en_FTX7_ok, en_PTX7_ok, en_ac (⟨yX7_isCell, RX7, cX7_isCell, 2, (some .boolean), by decide, ct_X7_isCell_2 hl, fun h => Bool.noConfusion h, fun _ => gc_RX7_106s⟩) (en_ac (⟨yX7_kind, RX7, cX7_kind, 3, (some .char), by decide, ct_X7_kind_0 hl, fun _ => ⟨gc_RX7_175v, by decide, _, rfl, rfl⟩, fun h => Bool.noConfusion h⟩) (en_ac (⟨yX7_isCup, RX7, cX7_isCup, 3, (some .boolean), by decide, ct_X7_isCup_h hl, fun _ => ⟨gc_RX7_187v, by decide, _, rfl, rfl⟩, fun h => Bool.noConfusion h⟩) en_an)), en_LTX7_ok, en_LLX7_ok, en_TTX7_ok hl, ⟨cw256, cw147⟩, en_ACX7_ok⟩ de_X7_isAllowed ck_X7_isAllowed_0
def tb_X7_put : en_Tb := [
  (19, [(0, .aload_n 0, 1), (1, .iconst (-1), 1), (2, .putfield 160, 3), (5, .aload_n 1, 1), (6, .iconst 1, 1), (7, .iload_n 2, 1), (8, .iastore, 1), (9, .aload_n 1, 1), (10, .iconst 2, 1), (11, .iload_n 3, 1), (12, .iastore, 1), (13, .aload_n 1, 1), (14, .bipush 8, 2), (16, .dup2, 1), (17, .iaload, 1), (18, .iload 4, 2)]), 
  (27, [(20, .iadd, 1), (21, .iastore, 1), (22, .aload_n 1, 1), (23, .invokestatic 207, 3), (26, .ireturn, 1)])]
set_option maxRecDepth 40000 in
theorem de_X7_put : en_De tb_X7_put cX7_put := by
  unfold en_De
  decide +kernel
def k_X7_put_0 : en_K := (5, ([.inr (.inl 20), .inr (.inl 27), .inl (0, 29, 0, 0), .inl (0, 19, 0, 0), .inl (1, 1, 0, 0), .inl (108, 108, 0, 0), .inl (0, 29, 0, 0), .inl (0, 19, 0, 0), .inl (0, 0, 0, 0), .inl (0, 29, 0, 0), .inl (0, 19, 0, 0), .inl (0, 0, 0, 0)], [(1, 1, 0, 5, 0, 0), (1, 1, 1, 6, 0, 0), (1, 1, 2, 7, 0, 0), (1, 1, 3, 8, 0, 0), (1, 1, 4, 9, 0, 0), (1, 1, 5, 10, 0, 0), (1, 1, 13, 11, 0, 0), (2, 2, 3, 0, 0, 0), (2, 6, 7, 0, 0, 0), (2, 9, 10, 0, 0, 0), (5, 0, 0, 0, 0, 0)]), [([.inr (.inl 20), .inr (.inl 27), .inl (0, 29, 0, 0), .inl (0, 19, 0, 0), .inl (1, 1, 0, 0), .inl ((-2147483648), 2147483647, 0, 0), .inl (0, 65535, 0, 0), .inl ((-2147483648), 2147483647, 0, 0), .inl (0, 110, 0, 0), .inl ((-2147483648), 2147483647, 0, 0), .inl ((-2147483648), 2147483647, 0, 0), .inl (0, 1, 0, 0), .inl (0, 29, 0, 0), .inl (0, 19, 0, 0), .inl (0, 1, 0, 0), .inl (0, 29, 0, 0), .inl (0, 19, 0, 0), .inl (0, 29, 0, 0), .inl ((-2147483648), 2147483647, 0, 0), .inl (0, 19, 0, 0), .inl (0, 0, 0, 0), .inl (0, 29, 0, 0), .inl (0, 19, 0, 0), .inl (0, 1, 0, 0), .inl ((-1), (-1), 0, 0)], [(1, 1, 0, 6, 0, 0), (1, 1, 1, 7, 0, 0), (1, 1, 10, 8, 0, 0), (1, 1, 11, 9, 0, 0), (1, 1, 12, 10, 0, 0), (1, 1, 13, 11, 0, 0), (1, 1, 14, 12, 0, 0), (1, 1, 15, 13, 0, 0), (1, 1, 16, 14, 0, 0), (1, 1, 17, 15, 0, 0), (1, 1, 18, 16, 0, 0), (1, 1, 19, 17, 0, 0), (1, 1, 2, 18, 0, 0), (1, 1, 20, 19, 0, 0), (1, 1, 3, 20, 0, 0), (1, 1, 4, 21, 0, 0), (1, 1, 5, 22, 0, 0), (1, 1, 9, 23, 0, 0), (0, 0, 28, 24, 0, 0), (2, 2, 3, 0, 0, 0), (3, 6, 7, 18, 108, 110), (3, 6, 21, 22, 108, 108), (3, 6, 21, 22, 115, 115), (3, 8, 9, 10, 108, 110), (3, 11, 12, 13, 1, 1), (3, 11, 21, 22, 1, 1), (3, 14, 15, 16, 1, 1), (3, 14, 17, 19, 1, 1), (3, 23, 21, 22, 1, 1), (5, 0, 0, 0, 0, 0), (10, 6, 7, 18, 115, 115)])], [(20, 28), (27, 0)], [20, 27], (0, 0), [])
def u_X7_put_0 : List en_U := []
def x_X7_put_0 : en_Cx := ((en_KT, en_TY0, en_om0), en_FTX7, en_PTX7, [(207, false, 0, 0, 0, k_X7_scoreOf_0)], en_LTX7, en_LLX7, en_TTX7, en_ACX7)
def m_X7_put_0 : en_Mx := (k_X7_put_0, 1, 5, (0, 0), tb_X7_put, [])
set_option maxRecDepth 100000 in
theorem ck_X7_put_0 : en_all x_X7_put_0 m_X7_put_0 u_X7_put_0 24 = true := by decide +kernel
theorem ct_X7_put_0 {l : Launch} (hl : l.stackTraces = false) {cx cy : Int32} : en_Ctr l vwCl en_TY0 (en_Pc cx cy) en_om0 (en_Of cx cy) en_KT yX7_put (Cond.code yX7_put cX7_put 5 (some .int) :: en_cw) (en_rm 1 (0, 0)) 0 k_X7_put_0 :=
  en_main (X := x_X7_put_0) (M := m_X7_put_0) en_Pc_ok en_f32_ok en_f64_ok hl (by decide +kernel) ⟨en_FTX7_ok, en_PTX7_ok, en_ac (⟨yX7_scoreOf, RX7, cX7_scoreOf, 1, (some .int), by decide, ct_X7_scoreOf_0 hl, fun h => Bool.noConfusion h, fun _ => gc_RX7_207s⟩) en_an, en_LTX7_ok, en_LLX7_ok, en_TTX7_ok hl, ⟨cw256, cw147⟩, en_ACX7_ok⟩ de_X7_put ck_X7_put_0
def k_X7_aside_1 : en_K := (4, ([.inr (.inl 20), .inl ((-2147483648), 2147483647, 0, 0), .inl ((-2147483648), 2147483647, 0, 0), .inl ((-2147483648), 2147483647, 0, 0), .inl (1, 1, 0, 0), .inl (0, 8, 0, 0)], [(0, 0, 22, 4, 0, 0), (0, 0, 25, 5, 0, 0), (5, 0, 0, 0, 0, 0)]), [([.inr (.inl 20), .inl ((-2147483648), 2147483647, 0, 0), .inl ((-2147483648), 2147483647, 0, 0), .inl ((-2147483648), 2147483647, 0, 0), .inl ((-2147483648), 2147483647, 0, 0)], [(5, 0, 0, 0, 0, 0)])], [(20, 28), (20, 30), (27, 0)], [20, 21, 22, 23, 24, 26, 27], (0, 0), [])
def u_X7_aside_1 : List en_U := []
def x_X7_aside_1 : en_Cx := ((en_KT, en_TY0, en_om0), en_FTX7, en_PTX7, [(102, false, 0, 0, 0, k_X7_far_0), (106, false, 0, 0, 1, k_X7_isCell_1), (110, true, 13, 0, 0, k_X7_isThrown_3), (110, true, 13, 0, 0, k_X7_isThrown_4), (110, true, 13, 0, 0, k_X7_isThrown_5), (110, true, 13, 0, 0, k_X7_isThrown_6), (110, true, 13, 0, 0, k_X7_isThrown_7), (132, true, 13, 0, 1, k_X7_isNoPlayer_1), (166, true, 13, 0, 1, k_X7_toCup_0), (175, true, 13, 0, 0, k_X7_kind_0), (214, true, 13, 0, 0, k_X7_isFree_0), (223, true, 13, 0, 2, k_X7_isAllowed_0), (226, true, 13, 0, 1, k_X7_put_0)], en_LTX7, en_LLX7, en_TTX7, en_ACX7)
def m_X7_aside_1 : en_Mx := (k_X7_aside_1, 3, 6, (0, 0), tb_X7_aside, [])
set_option maxRecDepth 100000 in
theorem ck_X7_aside_1 : en_all x_X7_aside_1 m_X7_aside_1 u_X7_aside_1 97 = true := by decide +kernel
theorem ct_X7_aside_1 {l : Launch} (hl : l.stackTraces = false) {cx cy : Int32} : en_Ctr l vwCl en_TY0 (en_Pc cx cy) en_om0 (en_Of cx cy) en_KT yX7_aside (Cond.code yX7_aside cX7_aside 6 (some .int) :: en_cw) (en_rm 3 (0, 0)) 0 k_X7_aside_1 :=
  en_main (X := x_X7_aside_1) (M := m_X7_aside_1) en_Pc_ok en_f32_ok en_f64_ok hl (by decide +kernel) ⟨en_FTX7_ok, en_PTX7_ok, en_ac (⟨yX7_far, RX7, cX7_far, 4, (some .int), by decide, ct_X7_far_0 hl, fun h => Bool.noConfusion h, fun _ => gc_RX7_102s⟩) (en_ac (⟨yX7_isCell, RX7, cX7_isCell, 2, (some .boolean), by decide, ct_X7_isCell_1 hl, fun h => Bool.noConfusion h, fun _ => gc_RX7_106s⟩) (en_ac (⟨yX7_isThrown, RX7, cX7_isThrown, 3, (some .boolean), by decide, ct_X7_isThrown_3 hl, fun _ => ⟨gc_RX7_110v, by decide, _, rfl, rfl⟩, fun h => Bool.noConfusion h⟩) (en_ac (⟨yX7_isThrown, RX7, cX7_isThrown, 3, (some .boolean), by decide, ct_X7_isThrown_4 hl, fun _ => ⟨gc_RX7_110v, by decide, _, rfl, rfl⟩, fun h => Bool.noConfusion h⟩) (en_ac (⟨yX7_isThrown, RX7, cX7_isThrown, 3, (some .boolean), by decide, ct_X7_isThrown_5 hl, fun _ => ⟨gc_RX7_110v, by decide, _, rfl, rfl⟩, fun h => Bool.noConfusion h⟩) (en_ac (⟨yX7_isThrown, RX7, cX7_isThrown, 3, (some .boolean), by decide, ct_X7_isThrown_6 hl, fun _ => ⟨gc_RX7_110v, by decide, _, rfl, rfl⟩, fun h => Bool.noConfusion h⟩) (en_ac (⟨yX7_isThrown, RX7, cX7_isThrown, 3, (some .boolean), by decide, ct_X7_isThrown_7 hl, fun _ => ⟨gc_RX7_110v, by decide, _, rfl, rfl⟩, fun h => Bool.noConfusion h⟩) (en_ac (⟨yX7_isNoPlayer, RX7, cX7_isNoPlayer, 2, (some .boolean), by decide, ct_X7_isNoPlayer_1 hl, fun _ => ⟨gc_RX7_132v, by decide, _, rfl, rfl⟩, fun h => Bool.noConfusion h⟩) (en_ac (⟨yX7_toCup, RX7, cX7_toCup, 3, (some .int), by decide, ct_X7_toCup_0 hl, fun _ => ⟨gc_RX7_166v, by decide, _, rfl, rfl⟩, fun h => Bool.noConfusion h⟩) (en_ac (⟨yX7_kind, RX7, cX7_kind, 3, (some .char), by decide, ct_X7_kind_0 hl, fun _ => ⟨gc_RX7_175v, by decide, _, rfl, rfl⟩, fun h => Bool.noConfusion h⟩) (en_ac (⟨yX7_isFree, RX7, cX7_isFree, 2, (some .boolean), by decide, ct_X7_isFree_0 hl, fun _ => ⟨gc_RX7_214v, by decide, _, rfl, rfl⟩, fun h => Bool.noConfusion h⟩) (en_ac (⟨yX7_isAllowed, RX7, cX7_isAllowed, 3, (some .boolean), by decide, ct_X7_isAllowed_0 hl, fun _ => ⟨gc_RX7_223v, by decide, _, rfl, rfl⟩, fun h => Bool.noConfusion h⟩) (en_ac (⟨yX7_put, RX7, cX7_put, 5, (some .int), by decide, ct_X7_put_0 hl, fun _ => ⟨gc_RX7_226v, by decide, _, rfl, rfl⟩, fun h => Bool.noConfusion h⟩) en_an)))))))))))), en_LTX7_ok, en_LLX7_ok, en_TTX7_ok hl, ⟨cw256, cw147⟩, en_ACX7_ok⟩ de_X7_aside ck_X7_aside_1
def k_X7_aside_2 : en_K := (4, ([.inr (.inl 20), .inl ((-2147483648), 2147483647, 0, 0), .inl ((-2147483648), 2147483647, 0, 0), .inl ((-2147483648), 2147483647, 0, 0), .inl (1, 1, 0, 0), .inl (0, 8, 0, 0), .inl ((-1), (-1), 0, 0)], [(0, 0, 22, 4, 0, 0), (0, 0, 25, 5, 0, 0), (0, 0, 28, 6, 0, 0), (5, 0, 0, 0, 0, 0)]), [([.inr (.inl 20), .inl ((-2147483648), 2147483647, 0, 0), .inl ((-2147483648), 2147483647, 0, 0), .inl ((-2147483648), 2147483647, 0, 0), .inl ((-2147483648), 2147483647, 0, 0), .inl ((-1), (-1), 0, 0)], [(0, 0, 28, 5, 0, 0), (5, 0, 0, 0, 0, 0)])], [(20, 28), (20, 30), (27, 0)], [20, 21, 22, 23, 24, 26, 27], (0, 0), [])
def u_X7_aside_2 : List en_U := []
def x_X7_aside_2 : en_Cx := ((en_KT, en_TY0, en_om0), en_FTX7, en_PTX7, [(102, false, 0, 0, 0, k_X7_far_0), (106, false, 0, 0, 1, k_X7_isCell_1), (110, true, 13, 0, 0, k_X7_isThrown_3), (110, true, 13, 0, 0, k_X7_isThrown_4), (110, true, 13, 0, 0, k_X7_isThrown_5), (110, true, 13, 0, 0, k_X7_isThrown_6), (110, true, 13, 0, 0, k_X7_isThrown_7), (132, true, 13, 0, 1, k_X7_isNoPlayer_1), (166, true, 13, 0, 1, k_X7_toCup_0), (175, true, 13, 0, 0, k_X7_kind_0), (214, true, 13, 0, 0, k_X7_isFree_0), (223, true, 13, 0, 2, k_X7_isAllowed_0), (226, true, 13, 0, 1, k_X7_put_0)], en_LTX7, en_LLX7, en_TTX7, en_ACX7)
def m_X7_aside_2 : en_Mx := (k_X7_aside_2, 3, 6, (0, 0), tb_X7_aside, [])
set_option maxRecDepth 100000 in
theorem ck_X7_aside_2 : en_all x_X7_aside_2 m_X7_aside_2 u_X7_aside_2 97 = true := by decide +kernel
theorem ct_X7_aside_2 {l : Launch} (hl : l.stackTraces = false) {cx cy : Int32} : en_Ctr l vwCl en_TY0 (en_Pc cx cy) en_om0 (en_Of cx cy) en_KT yX7_aside (Cond.code yX7_aside cX7_aside 6 (some .int) :: en_cw) (en_rm 3 (0, 0)) 0 k_X7_aside_2 :=
  en_main (X := x_X7_aside_2) (M := m_X7_aside_2) en_Pc_ok en_f32_ok en_f64_ok hl (by decide +kernel) ⟨en_FTX7_ok, en_PTX7_ok, en_ac (⟨yX7_far, RX7, cX7_far, 4, (some .int), by decide, ct_X7_far_0 hl, fun h => Bool.noConfusion h, fun _ => gc_RX7_102s⟩) (en_ac (⟨yX7_isCell, RX7, cX7_isCell, 2, (some .boolean), by decide, ct_X7_isCell_1 hl, fun h => Bool.noConfusion h, fun _ => gc_RX7_106s⟩) (en_ac (⟨yX7_isThrown, RX7, cX7_isThrown, 3, (some .boolean), by decide, ct_X7_isThrown_3 hl, fun _ => ⟨gc_RX7_110v, by decide, _, rfl, rfl⟩, fun h => Bool.noConfusion h⟩) (en_ac (⟨yX7_isThrown, RX7, cX7_isThrown, 3, (some .boolean), by decide, ct_X7_isThrown_4 hl, fun _ => ⟨gc_RX7_110v, by decide, _, rfl, rfl⟩, fun h => Bool.noConfusion h⟩) (en_ac (⟨yX7_isThrown, RX7, cX7_isThrown, 3, (some .boolean), by decide, ct_X7_isThrown_5 hl, fun _ => ⟨gc_RX7_110v, by decide, _, rfl, rfl⟩, fun h => Bool.noConfusion h⟩) (en_ac (⟨yX7_isThrown, RX7, cX7_isThrown, 3, (some .boolean), by decide, ct_X7_isThrown_6 hl, fun _ => ⟨gc_RX7_110v, by decide, _, rfl, rfl⟩, fun h => Bool.noConfusion h⟩) (en_ac (⟨yX7_isThrown, RX7, cX7_isThrown, 3, (some .boolean), by decide, ct_X7_isThrown_7 hl, fun _ => ⟨gc_RX7_110v, by decide, _, rfl, rfl⟩, fun h => Bool.noConfusion h⟩) (en_ac (⟨yX7_isNoPlayer, RX7, cX7_isNoPlayer, 2, (some .boolean), by decide, ct_X7_isNoPlayer_1 hl, fun _ => ⟨gc_RX7_132v, by decide, _, rfl, rfl⟩, fun h => Bool.noConfusion h⟩) (en_ac (⟨yX7_toCup, RX7, cX7_toCup, 3, (some .int), by decide, ct_X7_toCup_0 hl, fun _ => ⟨gc_RX7_166v, by decide, _, rfl, rfl⟩, fun h => Bool.noConfusion h⟩) (en_ac (⟨yX7_kind, RX7, cX7_kind, 3, (some .char), by decide, ct_X7_kind_0 hl, fun _ => ⟨gc_RX7_175v, by decide, _, rfl, rfl⟩, fun h => Bool.noConfusion h⟩) (en_ac (⟨yX7_isFree, RX7, cX7_isFree, 2, (some .boolean), by decide, ct_X7_isFree_0 hl, fun _ => ⟨gc_RX7_214v, by decide, _, rfl, rfl⟩, fun h => Bool.noConfusion h⟩) (en_ac (⟨yX7_isAllowed, RX7, cX7_isAllowed, 3, (some .boolean), by decide, ct_X7_isAllowed_0 hl, fun _ => ⟨gc_RX7_223v, by decide, _, rfl, rfl⟩, fun h => Bool.noConfusion h⟩) (en_ac (⟨yX7_put, RX7, cX7_put, 5, (some .int), by decide, ct_X7_put_0 hl, fun _ => ⟨gc_RX7_226v, by decide, _, rfl, rfl⟩, fun h => Bool.noConfusion h⟩) en_an)))))))))))), en_LTX7_ok, en_LLX7_ok, en_TTX7_ok hl, ⟨cw256, cw147⟩, en_ACX7_ok⟩ de_X7_aside ck_X7_aside_2
def tb_X7_away : en_Tb := [
  (30, [(0, .aload_n 0, 1), (1, .aload_n 0, 1), (2, .getfield 135, 3), (5, .ifCond .ne 7, 3), (8, .iconst 1, 1), (9, .goto 4, 3), (12, .iconst 0, 1), (13, .iconst 1, 1), (14, .invokevirtual 110, 3), (17, .ifCond .ne 23, 3), (20, .aload_n 0, 1), (21, .aload_n 0, 1), (22, .invokevirtual 169, 3), (25, .ifCond .ne 7, 3), (28, .iconst 1, 1), (29, .goto 4, 3)]), 
  (49, [(32, .iconst 0, 1), (33, .iconst 2, 1), (34, .invokevirtual 110, 3), (37, .ifCond .eq 7, 3), (40, .iconst 0, 1), (41, .goto 7, 3), (44, .aload_n 0, 1), (45, .invokevirtual 172, 3), (48, .ireturn, 1)])]
set_option maxRecDepth 40000 in
theorem de_X7_away : en_De tb_X7_away cX7_away := by
  unfold en_De
  decide +kernel
def k_X7_away_0 : en_K := (1, ([.inr (.inl 20), .inl (0, 0, 0, 0)], [(0, 0, 22, 1, 0, 0)]), [([.inr (.inl 20), .inl (0, 0, 0, 0)], [])], [(20, 30)], [20], (0, 0), [])
def u_X7_away_0 : List en_U := []
def x_X7_away_0 : en_Cx := ((en_KT, en_TY0, en_om0), en_FTX7, en_PTX7, [(110, true, 13, 0, 0, k_X7_isThrown_0)], en_LTX7, en_LLX7, en_TTX7, en_ACX7)
def m_X7_away_0 : en_Mx := (k_X7_away_0, 1, 1, (0, 0), tb_X7_away, [])
set_option maxRecDepth 100000 in
theorem ck_X7_away_0 : en_all x_X7_away_0 m_X7_away_0 u_X7_away_0 15 = true := by decide +kernel
theorem ct_X7_away_0 {l : Launch} (hl : l.stackTraces = false) {cx cy : Int32} : en_Ctr l vwCl en_TY0 (en_Pc cx cy) en_om0 (en_Of cx cy) en_KT yX7_away (Cond.code yX7_away cX7_away 1 (some .int) :: en_cw) (en_rm 1 (0, 0)) 0 k_X7_away_0 :=
  en_main (X := x_X7_away_0) (M := m_X7_away_0) en_Pc_ok en_f32_ok en_f64_ok hl (by decide +kernel) ⟨en_FTX7_ok, en_PTX7_ok, en_ac (⟨yX7_isThrown, RX7, cX7_isThrown, 3, (some .boolean), by decide, ct_X7_isThrown_0 hl, fun _ => ⟨gc_RX7_110v, by decide, _, rfl, rfl⟩, fun h => Bool.noConfusion h⟩) en_an, en_LTX7_ok, en_LLX7_ok, en_TTX7_ok hl, ⟨cw256, cw147⟩, en_ACX7_ok⟩ de_X7_away ck_X7_away_0
def tb_X7_isDone : en_Tb := [
  (24, [(0, .aload_n 0, 1), (1, .getfield 23, 3), (4, .iload_n 1, 1), (5, .aaload, 1), (6, .iconst 0, 1), (7, .iaload, 1), (8, .bipush 104, 2), (10, .if_icmp .eq 16, 3), (13, .aload_n 0, 1), (14, .getfield 23, 3), (17, .iload_n 1, 1), (18, .aaload, 1), (19, .iconst 0, 1), (20, .iaload, 1), (21, .bipush 117, 2), (23, .if_icmp .ne 7, 3)]), 
  (32, [(26, .iconst 1, 1), (27, .goto 4, 3), (30, .iconst 0, 1), (31, .ireturn, 1)])]
set_option maxRecDepth 40000 in
theorem de_X7_isDone : en_De tb_X7_isDone cX7_isDone := by
  unfold en_De
  decide +kernel
def k_X7_isDone_0 : en_K := (2, ([.inr (.inl 20), .inl (0, 5, 0, 0)], [(5, 0, 0, 0, 0, 0)]), [([.inr (.inl 20), .inl (0, 5, 0, 0), .inl (0, 0, 0, 0)], [(5, 0, 0, 0, 0, 0)]), ([.inr (.inl 20), .inl (0, 5, 0, 0), .inl (1, 1, 0, 0)], [(5, 0, 0, 0, 0, 0)])], [], [20, 26, 27], (0, 0), [])
def u_X7_isDone_0 : List en_U := []
def x_X7_isDone_0 : en_Cx := ((en_KT, en_TY0, en_om0), en_FTX7, en_PTX7, [], en_LTX7, en_LLX7, en_TTX7, en_ACX7)
def m_X7_isDone_0 : en_Mx := (k_X7_isDone_0, 0, 2, (0, 2), tb_X7_isDone, [])
set_option maxRecDepth 100000 in
theorem ck_X7_isDone_0 : en_all x_X7_isDone_0 m_X7_isDone_0 u_X7_isDone_0 22 = true := by decide +kernel
theorem ct_X7_isDone_0 {l : Launch} (hl : l.stackTraces = false) {cx cy : Int32} : en_Ctr l vwCl en_TY0 (en_Pc cx cy) en_om0 (en_Of cx cy) en_KT yX7_isDone (Cond.code yX7_isDone cX7_isDone 2 (some .boolean) :: en_cw) (en_rm 0 (0, 0)) 0 k_X7_isDone_0 :=
  en_main (X := x_X7_isDone_0) (M := m_X7_isDone_0) en_Pc_ok en_f32_ok en_f64_ok hl (by decide +kernel) ⟨en_FTX7_ok, en_PTX7_ok, en_an, en_LTX7_ok, en_LLX7_ok, en_TTX7_ok hl, ⟨cw256, cw147⟩, en_ACX7_ok⟩ de_X7_isDone ck_X7_isDone_0
def tb_X7_notDone : en_Tb := [
  (26, [(0, .iconst 0, 1), (1, .istore_n 1, 1), (2, .iconst 0, 1), (3, .istore_n 2, 1), (4, .iload_n 2, 1), (5, .aload_n 0, 1), (6, .getfield 89, 3), (9, .if_icmp .ge 25, 3), (12, .iload_n 1, 1), (13, .aload_n 0, 1), (14, .iload_n 2, 1), (15, .invokevirtual 163, 3), (18, .ifCond .eq 7, 3), (21, .iconst 0, 1), (22, .goto 4, 3), (25, .iconst 1, 1)]), 
  (36, [(26, .iadd, 1), (27, .istore_n 1, 1), (28, .iinc 2 1, 3), (31, .goto (-27), 3), (34, .iload_n 1, 1), (35, .ireturn, 1)])]
set_option maxRecDepth 40000 in
theorem de_X7_notDone : en_De tb_X7_notDone cX7_notDone := by
  unfold en_De
  decide +kernel
def k_X7_notDone_0 : en_K := (1, ([.inr (.inl 20)], [(5, 0, 0, 0, 0, 0)]), [([.inr (.inl 20), .inl ((-2147483648), 2147483647, 0, 0)], [(5, 0, 0, 0, 0, 0)])], [], [20, 26, 27], (0, 0), [])
def u_X7_notDone_0 : List en_U := [
  (4, ([.inr (.inl 20), .inl (0, 6, 0, 0), .inl ((-2147483648), 2147483647, 0, 0)], [(5, 0, 0, 0, 0, 0)]), [(0, 0), (2, 1), (1, 2)], (0, 0), [((-2), 1)], 16)]
def x_X7_notDone_0 : en_Cx := ((en_KT, en_TY0, en_om0), en_FTX7, en_PTX7, [(163, true, 13, 0, 0, k_X7_isDone_0)], en_LTX7, en_LLX7, en_TTX7, en_ACX7)
def m_X7_notDone_0 : en_Mx := (k_X7_notDone_0, 1, 3, (0, 0), tb_X7_notDone, [])
set_option maxRecDepth 100000 in
theorem ck_X7_notDone_0 : en_all x_X7_notDone_0 m_X7_notDone_0 u_X7_notDone_0 18 = true := by decide +kernel
theorem ct_X7_notDone_0 {l : Launch} (hl : l.stackTraces = false) {cx cy : Int32} : en_Ctr l vwCl en_TY0 (en_Pc cx cy) en_om0 (en_Of cx cy) en_KT yX7_notDone (Cond.code yX7_notDone cX7_notDone 3 (some .int) :: en_cw) (en_rm 1 (0, 0)) 0 k_X7_notDone_0 :=
  en_main (X := x_X7_notDone_0) (M := m_X7_notDone_0) en_Pc_ok en_f32_ok en_f64_ok hl (by decide +kernel) ⟨en_FTX7_ok, en_PTX7_ok, en_ac (⟨yX7_isDone, RX7, cX7_isDone, 2, (some .boolean), by decide, ct_X7_isDone_0 hl, fun _ => ⟨gc_RX7_163v, by decide, _, rfl, rfl⟩, fun h => Bool.noConfusion h⟩) en_an, en_LTX7_ok, en_LLX7_ok, en_TTX7_ok hl, ⟨cw256, cw147⟩, en_ACX7_ok⟩ de_X7_notDone ck_X7_notDone_0
def k_X7_isThrown_11 : en_K := (3, ([.inr (.inl 20), .inl (1, 1, 0, 0), .inl (2, 2, 0, 0)], [(5, 0, 0, 0, 0, 0)]), [([.inr (.inl 20), .inl (1, 1, 0, 0), .inl (2, 2, 0, 0), .inl (1, 1, 0, 0)], [(0, 0, 30, 2, 0, 0), (5, 0, 0, 0, 0, 0), (6, 1, 0, 0, 0, 0)])], [(20, 30)], [20], (0, 0), [])
def u_X7_isThrown_11 : List en_U := []
def x_X7_isThrown_11 : en_Cx := ((en_KT, en_TY0, en_om0), en_FTX7, en_PTX7, [], en_LTX7, en_LLX7, en_TTX7, en_ACX7)
def m_X7_isThrown_11 : en_Mx := (k_X7_isThrown_11, 0, 3, (0, 2), tb_X7_isThrown, [])
set_option maxRecDepth 100000 in
theorem ck_X7_isThrown_11 : en_all x_X7_isThrown_11 m_X7_isThrown_11 u_X7_isThrown_11 11 = true := by decide +kernel
theorem ct_X7_isThrown_11 {l : Launch} (hl : l.stackTraces = false) {cx cy : Int32} : en_Ctr l vwCl en_TY0 (en_Pc cx cy) en_om0 (en_Of cx cy) en_KT yX7_isThrown (Cond.code yX7_isThrown cX7_isThrown 3 (some .boolean) :: en_cw) (en_rm 0 (0, 0)) 0 k_X7_isThrown_11 :=
  en_main (X := x_X7_isThrown_11) (M := m_X7_isThrown_11) en_Pc_ok en_f32_ok en_f64_ok hl (by decide +kernel) ⟨en_FTX7_ok, en_PTX7_ok, en_an, en_LTX7_ok, en_LLX7_ok, en_TTX7_ok hl, ⟨cw256, cw147⟩, en_ACX7_ok⟩ de_X7_isThrown ck_X7_isThrown_11
def tb_X7_whoPlays : en_Tb := [
  (24, [(0, .iconst 0, 1), (1, .istore_n 1, 1), (2, .iload_n 1, 1), (3, .aload_n 0, 1), (4, .getfield 89, 3), (7, .if_icmp .ge 34, 3), (10, .aload_n 0, 1), (11, .getfield 23, 3), (14, .aload_n 0, 1), (15, .getfield 48, 3), (18, .iload_n 1, 1), (19, .iaload, 1), (20, .aaload, 1), (21, .iconst 0, 1), (22, .iaload, 1), (23, .bipush 110, 2)]), 
  (49, [(25, .if_icmp .ne 10, 3), (28, .aload_n 0, 1), (29, .getfield 48, 3), (32, .iload_n 1, 1), (33, .iaload, 1), (34, .ireturn, 1), (35, .iinc 1 1, 3), (38, .goto (-36), 3), (41, .iconst (-1), 1), (42, .istore_n 1, 1), (43, .iconst (-1), 1), (44, .istore_n 2, 1), (45, .iconst 0, 1), (46, .istore_n 3, 1), (47, .iload_n 3, 1), (48, .aload_n 0, 1)]), 
  (77, [(49, .getfield 89, 3), (52, .if_icmp .ge 74, 3), (55, .aload_n 0, 1), (56, .getfield 23, 3), (59, .iload_n 3, 1), (60, .aaload, 1), (61, .astore 4, 2), (63, .aload 4, 2), (65, .iconst 0, 1), (66, .iaload, 1), (67, .bipush 108, 2), (69, .if_icmp .ne 18, 3), (72, .aload_n 0, 1), (73, .aload 4, 2), (75, .iconst 1, 1), (76, .iaload, 1)]), 
  (103, [(77, .aload 4, 2), (79, .iconst 2, 1), (80, .iaload, 1), (81, .invokevirtual 166, 3), (84, .goto 15, 3), (87, .aload_n 0, 1), (88, .aload 4, 2), (90, .iconst 4, 1), (91, .iaload, 1), (92, .aload 4, 2), (94, .iconst 5, 1), (95, .iaload, 1), (96, .invokevirtual 166, 3), (99, .istore 5, 2), (101, .aload_n 0, 1), (102, .iload_n 3, 1)]), 
  (128, [(103, .invokevirtual 163, 3), (106, .ifCond .ne 14, 3), (109, .iload 5, 2), (111, .iload_n 2, 1), (112, .if_icmp .le 8, 3), (115, .iload_n 3, 1), (116, .istore_n 1, 1), (117, .iload 5, 2), (119, .istore_n 2, 1), (120, .iinc 3 1, 3), (123, .goto (-76), 3), (126, .iload_n 1, 1), (127, .ireturn, 1)])]
set_option maxRecDepth 40000 in
theorem de_X7_whoPlays : en_De tb_X7_whoPlays cX7_whoPlays := by
  unfold en_De
  decide +kernel
def k_X7_whoPlays_0 : en_K := (1, ([.inr (.inl 20), .inl (0, 8, 0, 0)], [(0, 0, 25, 1, 0, 0), (5, 0, 0, 0, 0, 0)]), [([.inr (.inl 20), .inl ((-1), 5, 0, 0)], [(5, 0, 0, 0, 0, 0)])], [], [20, 21, 22, 26, 27, 38], (0, 0), [])
def u_X7_whoPlays_0 : List en_U := [
  (2, ([.inr (.inl 20), .inl (0, 6, 0, 0), .inl (0, 8, 0, 0)], [(0, 0, 25, 2, 0, 0), (5, 0, 0, 0, 0, 0)]), [(0, 0), (1, 1)], (0, 0), [((-2), 1)], 33), 
  (47, ([.inr (.inl 20), .inl (0, 6, 0, 0), .inl ((-1), 2147483647, 0, 0), .inl ((-1), 5, 0, 0), .inl (0, 8, 0, 0)], [(0, 0, 25, 4, 0, 0), (5, 0, 0, 0, 0, 0)]), [(0, 0), (3, 1), (2, 2), (1, 3)], (0, 0), [((-2), 1)], 16)]
def x_X7_whoPlays_0 : en_Cx := ((en_KT, en_TY0, en_om0), en_FTX7, en_PTX7, [(163, true, 13, 0, 0, k_X7_isDone_0), (166, true, 13, 0, 1, k_X7_toCup_0)], en_LTX7, en_LLX7, en_TTX7, en_ACX7)
def m_X7_whoPlays_0 : en_Mx := (k_X7_whoPlays_0, 2, 6, (0, 0), tb_X7_whoPlays, [])
set_option maxRecDepth 100000 in
theorem ck_X7_whoPlays_0 : en_all x_X7_whoPlays_0 m_X7_whoPlays_0 u_X7_whoPlays_0 40 = true := by decide +kernel
theorem ct_X7_whoPlays_0 {l : Launch} (hl : l.stackTraces = false) {cx cy : Int32} : en_Ctr l vwCl en_TY0 (en_Pc cx cy) en_om0 (en_Of cx cy) en_KT yX7_whoPlays (Cond.code yX7_whoPlays cX7_whoPlays 6 (some .int) :: en_cw) (en_rm 2 (0, 0)) 0 k_X7_whoPlays_0 :=
  en_main (X := x_X7_whoPlays_0) (M := m_X7_whoPlays_0) en_Pc_ok en_f32_ok en_f64_ok hl (by decide +kernel) ⟨en_FTX7_ok, en_PTX7_ok, en_ac (⟨yX7_isDone, RX7, cX7_isDone, 2, (some .boolean), by decide, ct_X7_isDone_0 hl, fun _ => ⟨gc_RX7_163v, by decide, _, rfl, rfl⟩, fun h => Bool.noConfusion h⟩) (en_ac (⟨yX7_toCup, RX7, cX7_toCup, 3, (some .int), by decide, ct_X7_toCup_0 hl, fun _ => ⟨gc_RX7_166v, by decide, _, rfl, rfl⟩, fun h => Bool.noConfusion h⟩) en_an), en_LTX7_ok, en_LLX7_ok, en_TTX7_ok hl, ⟨cw256, cw147⟩, en_ACX7_ok⟩ de_X7_whoPlays ck_X7_whoPlays_0
