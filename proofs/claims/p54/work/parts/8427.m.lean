def k_X7_isCell_11 : en_K := (2, ([.inl ((-1), (-1), 0, 0), .inl ((-1), 20, 0, 0)], [(5, 0, 0, 0, 0, 0)]), [([.inl ((-1), (-1), 0, 0), .inl ((-1), 20, 0, 0), .inl (0, 0, 0, 0)], [(5, 0, 0, 0, 0, 0)])], [], [], (0, 0), [])
def u_X7_isCell_11 : List en_U := []
def x_X7_isCell_11 : en_Cx := ((en_KT, en_TY0, en_om0), en_FTX7, en_PTX7, [(82, false, 0, 0, 0, k_X7_isIn_53)], en_LTX7, en_LLX7, en_TTX7, en_ACX7)
def m_X7_isCell_11 : en_Mx := (k_X7_isCell_11, 1, 2, (0, 2), tb_X7_isCell, [])
set_option maxRecDepth 100000 in
theorem ck_X7_isCell_11 : en_all x_X7_isCell_11 m_X7_isCell_11 u_X7_isCell_11 10 = true := by decide +kernel
theorem ct_X7_isCell_11 {l : Launch} (hl : l.stackTraces = false) {cx cy : Int32} : en_Ctr l vwCl en_TY0 (en_Pc cx cy) en_om0 (en_Of cx cy) en_KT yX7_isCell (Cond.code yX7_isCell cX7_isCell 2 (some .boolean) :: en_cw) (en_rm 1 (0, 0)) 0 k_X7_isCell_11 :=
  en_main (X := x_X7_isCell_11) (M := m_X7_isCell_11) en_Pc_ok en_f32_ok en_f64_ok hl (by decide +kernel) ⟨en_FTX7_ok, en_PTX7_ok, en_ac (⟨yX7_isIn, RX7, cX7_isIn, 3, (some .boolean), by decide, ct_X7_isIn_53 hl, fun h => Bool.noConfusion h, fun _ => gc_RX7_82s⟩) en_an, en_LTX7_ok, en_LLX7_ok, en_TTX7_ok hl, ⟨cw256, cw147⟩, en_ACX7_ok⟩ de_X7_isCell ck_X7_isCell_11
def k_X7_isIn_54 : en_K := (3, ([.inl (20, 20, 0, 0), .inl (0, 0, 0, 0), .inl (19, 19, 0, 0)], [(5, 0, 0, 0, 0, 0)]), [([.inl (20, 20, 0, 0), .inl (0, 0, 0, 0), .inl (19, 19, 0, 0), .inl (0, 0, 0, 0)], [(5, 0, 0, 0, 0, 0)])], [], [], (0, 0), [])
def u_X7_isIn_54 : List en_U := []
def x_X7_isIn_54 : en_Cx := ((en_KT, en_TY0, en_om0), en_FTX7, en_PTX7, [], en_LTX7, en_LLX7, en_TTX7, en_ACX7)
def m_X7_isIn_54 : en_Mx := (k_X7_isIn_54, 0, 3, (0, 2), tb_X7_isIn, [])
set_option maxRecDepth 100000 in
theorem ck_X7_isIn_54 : en_all x_X7_isIn_54 m_X7_isIn_54 u_X7_isIn_54 11 = true := by decide +kernel
theorem ct_X7_isIn_54 {l : Launch} (hl : l.stackTraces = false) {cx cy : Int32} : en_Ctr l vwCl en_TY0 (en_Pc cx cy) en_om0 (en_Of cx cy) en_KT yX7_isIn (Cond.code yX7_isIn cX7_isIn 3 (some .boolean) :: en_cw) (en_rm 0 (0, 0)) 0 k_X7_isIn_54 :=
  en_main (X := x_X7_isIn_54) (M := m_X7_isIn_54) en_Pc_ok en_f32_ok en_f64_ok hl (by decide +kernel) ⟨en_FTX7_ok, en_PTX7_ok, en_an, en_LTX7_ok, en_LLX7_ok, en_TTX7_ok hl, ⟨cw256, cw147⟩, en_ACX7_ok⟩ de_X7_isIn ck_X7_isIn_54
def k_X7_isCell_12 : en_K := (2, ([.inl (0, 29, 0, 0), .inl (20, 20, 0, 0)], [(5, 0, 0, 0, 0, 0)]), [([.inl (0, 29, 0, 0), .inl (20, 20, 0, 0), .inl (0, 0, 0, 0)], [(5, 0, 0, 0, 0, 0)])], [], [], (0, 0), [])
def u_X7_isCell_12 : List en_U := []
def x_X7_isCell_12 : en_Cx := ((en_KT, en_TY0, en_om0), en_FTX7, en_PTX7, [(82, false, 0, 0, 0, k_X7_isIn_54), (82, false, 0, 0, 0, k_X7_isIn_50)], en_LTX7, en_LLX7, en_TTX7, en_ACX7)
def m_X7_isCell_12 : en_Mx := (k_X7_isCell_12, 1, 2, (0, 2), tb_X7_isCell, [])
set_option maxRecDepth 100000 in
theorem ck_X7_isCell_12 : en_all x_X7_isCell_12 m_X7_isCell_12 u_X7_isCell_12 15 = true := by decide +kernel
theorem ct_X7_isCell_12 {l : Launch} (hl : l.stackTraces = false) {cx cy : Int32} : en_Ctr l vwCl en_TY0 (en_Pc cx cy) en_om0 (en_Of cx cy) en_KT yX7_isCell (Cond.code yX7_isCell cX7_isCell 2 (some .boolean) :: en_cw) (en_rm 1 (0, 0)) 0 k_X7_isCell_12 :=
  en_main (X := x_X7_isCell_12) (M := m_X7_isCell_12) en_Pc_ok en_f32_ok en_f64_ok hl (by decide +kernel) ⟨en_FTX7_ok, en_PTX7_ok, en_ac (⟨yX7_isIn, RX7, cX7_isIn, 3, (some .boolean), by decide, ct_X7_isIn_54 hl, fun h => Bool.noConfusion h, fun _ => gc_RX7_82s⟩) (en_ac (⟨yX7_isIn, RX7, cX7_isIn, 3, (some .boolean), by decide, ct_X7_isIn_50 hl, fun h => Bool.noConfusion h, fun _ => gc_RX7_82s⟩) en_an), en_LTX7_ok, en_LLX7_ok, en_TTX7_ok hl, ⟨cw256, cw147⟩, en_ACX7_ok⟩ de_X7_isCell ck_X7_isCell_12
def k_X7_isIn_55 : en_K := (3, ([.inl ((-1), (-1), 0, 0), .inl (0, 0, 0, 0), .inl (19, 19, 0, 0)], [(5, 0, 0, 0, 0, 0)]), [([.inl ((-1), (-1), 0, 0), .inl (0, 0, 0, 0), .inl (19, 19, 0, 0), .inl (0, 0, 0, 0)], [(5, 0, 0, 0, 0, 0)])], [], [], (0, 0), [])
def u_X7_isIn_55 : List en_U := []
def x_X7_isIn_55 : en_Cx := ((en_KT, en_TY0, en_om0), en_FTX7, en_PTX7, [], en_LTX7, en_LLX7, en_TTX7, en_ACX7)
def m_X7_isIn_55 : en_Mx := (k_X7_isIn_55, 0, 3, (0, 2), tb_X7_isIn, [])
set_option maxRecDepth 100000 in
theorem ck_X7_isIn_55 : en_all x_X7_isIn_55 m_X7_isIn_55 u_X7_isIn_55 8 = true := by decide +kernel
theorem ct_X7_isIn_55 {l : Launch} (hl : l.stackTraces = false) {cx cy : Int32} : en_Ctr l vwCl en_TY0 (en_Pc cx cy) en_om0 (en_Of cx cy) en_KT yX7_isIn (Cond.code yX7_isIn cX7_isIn 3 (some .boolean) :: en_cw) (en_rm 0 (0, 0)) 0 k_X7_isIn_55 :=
  en_main (X := x_X7_isIn_55) (M := m_X7_isIn_55) en_Pc_ok en_f32_ok en_f64_ok hl (by decide +kernel) ⟨en_FTX7_ok, en_PTX7_ok, en_an, en_LTX7_ok, en_LLX7_ok, en_TTX7_ok hl, ⟨cw256, cw147⟩, en_ACX7_ok⟩ de_X7_isIn ck_X7_isIn_55
def k_X7_isCell_13 : en_K := (2, ([.inl (0, 29, 0, 0), .inl ((-1), (-1), 0, 0)], [(5, 0, 0, 0, 0, 0)]), [([.inl (0, 29, 0, 0), .inl ((-1), (-1), 0, 0), .inl (0, 0, 0, 0)], [(5, 0, 0, 0, 0, 0)])], [], [], (0, 0), [])
def u_X7_isCell_13 : List en_U := []
def x_X7_isCell_13 : en_Cx := ((en_KT, en_TY0, en_om0), en_FTX7, en_PTX7, [(82, false, 0, 0, 0, k_X7_isIn_55), (82, false, 0, 0, 0, k_X7_isIn_50)], en_LTX7, en_LLX7, en_TTX7, en_ACX7)
def m_X7_isCell_13 : en_Mx := (k_X7_isCell_13, 1, 2, (0, 2), tb_X7_isCell, [])
set_option maxRecDepth 100000 in
theorem ck_X7_isCell_13 : en_all x_X7_isCell_13 m_X7_isCell_13 u_X7_isCell_13 15 = true := by decide +kernel
theorem ct_X7_isCell_13 {l : Launch} (hl : l.stackTraces = false) {cx cy : Int32} : en_Ctr l vwCl en_TY0 (en_Pc cx cy) en_om0 (en_Of cx cy) en_KT yX7_isCell (Cond.code yX7_isCell cX7_isCell 2 (some .boolean) :: en_cw) (en_rm 1 (0, 0)) 0 k_X7_isCell_13 :=
  en_main (X := x_X7_isCell_13) (M := m_X7_isCell_13) en_Pc_ok en_f32_ok en_f64_ok hl (by decide +kernel) ⟨en_FTX7_ok, en_PTX7_ok, en_ac (⟨yX7_isIn, RX7, cX7_isIn, 3, (some .boolean), by decide, ct_X7_isIn_55 hl, fun h => Bool.noConfusion h, fun _ => gc_RX7_82s⟩) (en_ac (⟨yX7_isIn, RX7, cX7_isIn, 3, (some .boolean), by decide, ct_X7_isIn_50 hl, fun h => Bool.noConfusion h, fun _ => gc_RX7_82s⟩) en_an), en_LTX7_ok, en_LLX7_ok, en_TTX7_ok hl, ⟨cw256, cw147⟩, en_ACX7_ok⟩ de_X7_isCell ck_X7_isCell_13
def tb_X7_comes : en_Tb := [
  (29, [(0, .iload_n 1, 1), (1, .iload_n 2, 1), (2, .invokestatic 106, 3), (5, .ifCond .eq 15, 3), (8, .aload_n 0, 1), (9, .iload_n 1, 1), (10, .iload_n 2, 1), (11, .invokevirtual 187, 3), (14, .ifCond .eq 6, 3), (17, .bipush 104, 2), (19, .ireturn, 1), (20, .iload_n 1, 1), (21, .iload_n 2, 1), (22, .invokestatic 106, 3), (25, .ifCond .eq 25, 3), (28, .aload_n 0, 1)]), 
  (58, [(29, .iload_n 1, 1), (30, .iload_n 2, 1), (31, .invokevirtual 175, 3), (34, .bipush 100, 2), (36, .if_icmp .eq 14, 3), (39, .aload_n 0, 1), (40, .iload_n 1, 1), (41, .iload_n 2, 1), (42, .invokevirtual 175, 3), (45, .bipush 111, 2), (47, .if_icmp .ne 8, 3), (50, .bipush 115, 2), (52, .goto 5, 3), (55, .bipush 108, 2), (57, .ireturn, 1)])]
set_option maxRecDepth 40000 in
theorem de_X7_comes : en_De tb_X7_comes cX7_comes := by
  unfold en_De
  decide +kernel
def k_X7_comes_0 : en_K := (3, ([.inr (.inl 20), .inl ((-1), 30, 0, 0), .inl ((-1), 20, 0, 0), .inl (0, 8, 0, 0)], [(0, 0, 25, 3, 0, 0), (5, 0, 0, 0, 0, 0)]), [([.inr (.inl 20), .inl (0, 29, 0, 0), .inl (0, 19, 0, 0), .inl (104, 104, 0, 0)], [(5, 0, 0, 0, 0, 0)]), ([.inr (.inl 20), .inl (0, 29, 0, 0), .inl (0, 19, 0, 0), .inl (108, 108, 0, 0)], [(2, 1, 2, 0, 0, 0), (5, 0, 0, 0, 0, 0)]), ([.inr (.inl 20), .inl (0, 29, 0, 0), .inl (0, 19, 0, 0), .inl (115, 115, 0, 0)], [(2, 1, 2, 0, 0, 0), (5, 0, 0, 0, 0, 0)]), ([.inr (.inl 20), .inl (30, 30, 0, 0), .inl ((-1), 20, 0, 0), .inl (115, 115, 0, 0)], [(5, 0, 0, 0, 0, 0)]), ([.inr (.inl 20), .inl ((-1), (-1), 0, 0), .inl ((-1), 20, 0, 0), .inl (115, 115, 0, 0)], [(5, 0, 0, 0, 0, 0)]), ([.inr (.inl 20), .inl (0, 29, 0, 0), .inl (20, 20, 0, 0), .inl (115, 115, 0, 0)], [(5, 0, 0, 0, 0, 0)]), ([.inr (.inl 20), .inl (0, 29, 0, 0), .inl ((-1), (-1), 0, 0), .inl (115, 115, 0, 0)], [(5, 0, 0, 0, 0, 0)])], [], [20, 21, 22, 23, 24], (0, 0), [])
def u_X7_comes_0 : List en_U := []
def x_X7_comes_0 : en_Cx := ((en_KT, en_TY0, en_om0), en_FTX7, en_PTX7, [(106, false, 0, 0, 1, k_X7_isCell_10), (106, false, 0, 0, 1, k_X7_isCell_11), (106, false, 0, 0, 1, k_X7_isCell_12), (106, false, 0, 0, 1, k_X7_isCell_13), (106, false, 0, 0, 1, k_X7_isCell_9), (106, false, 0, 0, 1, k_X7_isCell_8), (175, true, 13, 0, 0, k_X7_kind_0), (187, true, 13, 0, 1, k_X7_isCup_h)], en_LTX7, en_LLX7, en_TTX7, en_ACX7)
def m_X7_comes_0 : en_Mx := (k_X7_comes_0, 2, 3, (0, 1), tb_X7_comes, [])
set_option maxRecDepth 100000 in
theorem ck_X7_comes_0 : en_all x_X7_comes_0 m_X7_comes_0 u_X7_comes_0 31 = true := by decide +kernel
theorem ct_X7_comes_0 {l : Launch} (hl : l.stackTraces = false) {cx cy : Int32} : en_Ctr l vwCl en_TY0 (en_Pc cx cy) en_om0 (en_Of cx cy) en_KT yX7_comes (Cond.code yX7_comes cX7_comes 3 (some .char) :: en_cw) (en_rm 2 (0, 0)) 0 k_X7_comes_0 :=
  en_main (X := x_X7_comes_0) (M := m_X7_comes_0) en_Pc_ok en_f32_ok en_f64_ok hl (by decide +kernel) ⟨en_FTX7_ok, en_PTX7_ok, en_ac (⟨yX7_isCell, RX7, cX7_isCell, 2, (some .boolean), by decide, ct_X7_isCell_10 hl, fun h => Bool.noConfusion h, fun _ => gc_RX7_106s⟩) (en_ac (⟨yX7_isCell, RX7, cX7_isCell, 2, (some .boolean), by decide, ct_X7_isCell_11 hl, fun h => Bool.noConfusion h, fun _ => gc_RX7_106s⟩) (en_ac (⟨yX7_isCell, RX7, cX7_isCell, 2, (some .boolean), by decide, ct_X7_isCell_12 hl, fun h => Bool.noConfusion h, fun _ => gc_RX7_106s⟩) (en_ac (⟨yX7_isCell, RX7, cX7_isCell, 2, (some .boolean), by decide, ct_X7_isCell_13 hl, fun h => Bool.noConfusion h, fun _ => gc_RX7_106s⟩) (en_ac (⟨yX7_isCell, RX7, cX7_isCell, 2, (some .boolean), by decide, ct_X7_isCell_9 hl, fun h => Bool.noConfusion h, fun _ => gc_RX7_106s⟩) (en_ac (⟨yX7_isCell, RX7, cX7_isCell, 2, (some .boolean), by decide, ct_X7_isCell_8 hl, fun h => Bool.noConfusion h, fun _ => gc_RX7_106s⟩) (en_ac (⟨yX7_kind, RX7, cX7_kind, 3, (some .char), by decide, ct_X7_kind_0 hl, fun _ => ⟨gc_RX7_175v, by decide, _, rfl, rfl⟩, fun h => Bool.noConfusion h⟩) (en_ac (⟨yX7_isCup, RX7, cX7_isCup, 3, (some .boolean), by decide, ct_X7_isCup_h hl, fun _ => ⟨gc_RX7_187v, by decide, _, rfl, rfl⟩, fun h => Bool.noConfusion h⟩) en_an))))))), en_LTX7_ok, en_LLX7_ok, en_TTX7_ok hl, ⟨cw256, cw147⟩, en_ACX7_ok⟩ de_X7_comes ck_X7_comes_0
def k_X7_spread_3 : en_K := (5, ([.inr (.inl 20), .inl (0, 29, 0, 0), .inl (0, 19, 0, 0), .inl (0, 0, 0, 0), .inl ((-2147483648), 144, 0, 0), .inl (0, 8, 0, 0)], [(0, 0, 25, 5, 0, 0), (5, 0, 0, 0, 0, 0)]), [([.inr (.inl 20), .inl (0, 29, 0, 0), .inl (0, 19, 0, 0), .inl (0, 0, 0, 0), .inl ((-2147483648), 9, 0, 0), .inl (0, 0, 0, 0)], [(5, 0, 0, 0, 0, 0)]), ([.inr (.inl 20), .inl (0, 29, 0, 0), .inl (0, 19, 0, 0), .inl (0, 0, 0, 0), .inl ((-2147483648), 144, 0, 0), .inl (1, 1, 0, 0)], [(5, 0, 0, 0, 0, 0)]), ([.inr (.inl 20), .inl (0, 29, 0, 0), .inl (0, 19, 0, 0), .inl (0, 0, 0, 0), .inl ((-2147483648), 144, 0, 0), .inl (2, 2, 0, 0)], [(5, 0, 0, 0, 0, 0)])], [], [20, 23, 24], (0, 0), [])
def u_X7_spread_3 : List en_U := []
def x_X7_spread_3 : en_Cx := ((en_KT, en_TY0, en_om0), en_FTX7, en_PTX7, [(175, true, 13, 0, 0, k_X7_kind_0)], en_LTX7, en_LLX7, en_TTX7, en_ACX7)
def m_X7_spread_3 : en_Mx := (k_X7_spread_3, 1, 7, (0, 0), tb_X7_spread, [])
set_option maxRecDepth 100000 in
theorem ck_X7_spread_3 : en_all x_X7_spread_3 m_X7_spread_3 u_X7_spread_3 32 = true := by decide +kernel
theorem ct_X7_spread_3 {l : Launch} (hl : l.stackTraces = false) {cx cy : Int32} : en_Ctr l vwCl en_TY0 (en_Pc cx cy) en_om0 (en_Of cx cy) en_KT yX7_spread (Cond.code yX7_spread cX7_spread 7 (some .int) :: en_cw) (en_rm 1 (0, 0)) 0 k_X7_spread_3 :=
  en_main (X := x_X7_spread_3) (M := m_X7_spread_3) en_Pc_ok en_f32_ok en_f64_ok hl (by decide +kernel) ⟨en_FTX7_ok, en_PTX7_ok, en_ac (⟨yX7_kind, RX7, cX7_kind, 3, (some .char), by decide, ct_X7_kind_0 hl, fun _ => ⟨gc_RX7_175v, by decide, _, rfl, rfl⟩, fun h => Bool.noConfusion h⟩) en_an, en_LTX7_ok, en_LLX7_ok, en_TTX7_ok hl, ⟨cw256, cw147⟩, en_ACX7_ok⟩ de_X7_spread ck_X7_spread_3
def k_X7_drawn__1 : en_K := (2, ([.inr (.inl 20), .inl (2, 2, 0, 0)], [(5, 0, 0, 0, 0, 0)]), [([.inr (.inl 20), .inl (2, 2, 0, 0), .inl ((-2), 2, 0, 0)], [(5, 0, 0, 0, 0, 0), (6, 1, 0, 0, 0, 0)])], [(20, 18)], [20], (0, 0), [])
def u_X7_drawn__1 : List en_U := []
def x_X7_drawn__1 : en_Cx := ((en_KT, en_TY0, en_om0), en_FTX7, en_PTX7, [(180, true, 13, 0, 0, k_X7_drawn_0)], en_LTX7, en_LLX7, en_TTX7, en_ACX7)
def m_X7_drawn__1 : en_Mx := (k_X7_drawn__1, 1, 2, (0, 0), tb_X7_drawn_, [])
set_option maxRecDepth 100000 in
theorem ck_X7_drawn__1 : en_all x_X7_drawn__1 m_X7_drawn__1 u_X7_drawn__1 16 = true := by decide +kernel
theorem ct_X7_drawn__1 {l : Launch} (hl : l.stackTraces = false) {cx cy : Int32} : en_Ctr l vwCl en_TY0 (en_Pc cx cy) en_om0 (en_Of cx cy) en_KT yX7_drawn_ (Cond.code yX7_drawn_ cX7_drawn_ 2 (some .int) :: en_cw) (en_rm 1 (0, 0)) 0 k_X7_drawn__1 :=
  en_main (X := x_X7_drawn__1) (M := m_X7_drawn__1) en_Pc_ok en_f32_ok en_f64_ok hl (by decide +kernel) ⟨en_FTX7_ok, en_PTX7_ok, en_ac (⟨yX7_drawn, RX7, cX7_drawn, 1, (some .int), by decide, ct_X7_drawn_0 hl, fun _ => ⟨gc_RX7_180v, by decide, _, rfl, rfl⟩, fun h => Bool.noConfusion h⟩) en_an, en_LTX7_ok, en_LLX7_ok, en_TTX7_ok hl, ⟨cw256, cw147⟩, en_ACX7_ok⟩ de_X7_drawn_ ck_X7_drawn__1
def k_X7_isIn_56 : en_K := (3, ([.inl ((-2), 31, 0, 0), .inl (0, 0, 0, 0), .inl (29, 29, 0, 0)], [(5, 0, 0, 0, 0, 0)]), [([.inl (30, 31, 0, 0), .inl (0, 0, 0, 0), .inl (29, 29, 0, 0), .inl (0, 0, 0, 0)], [(5, 0, 0, 0, 0, 0)]), ([.inl ((-2), (-1), 0, 0), .inl (0, 0, 0, 0), .inl (29, 29, 0, 0), .inl (0, 0, 0, 0)], [(5, 0, 0, 0, 0, 0)]), ([.inl (0, 29, 0, 0), .inl (0, 0, 0, 0), .inl (29, 29, 0, 0), .inl (1, 1, 0, 0)], [(5, 0, 0, 0, 0, 0)])], [], [], (0, 0), [])
def u_X7_isIn_56 : List en_U := []
def x_X7_isIn_56 : en_Cx := ((en_KT, en_TY0, en_om0), en_FTX7, en_PTX7, [], en_LTX7, en_LLX7, en_TTX7, en_ACX7)
def m_X7_isIn_56 : en_Mx := (k_X7_isIn_56, 0, 3, (0, 2), tb_X7_isIn, [])
set_option maxRecDepth 100000 in
theorem ck_X7_isIn_56 : en_all x_X7_isIn_56 m_X7_isIn_56 u_X7_isIn_56 12 = true := by decide +kernel
theorem ct_X7_isIn_56 {l : Launch} (hl : l.stackTraces = false) {cx cy : Int32} : en_Ctr l vwCl en_TY0 (en_Pc cx cy) en_om0 (en_Of cx cy) en_KT yX7_isIn (Cond.code yX7_isIn cX7_isIn 3 (some .boolean) :: en_cw) (en_rm 0 (0, 0)) 0 k_X7_isIn_56 :=
  en_main (X := x_X7_isIn_56) (M := m_X7_isIn_56) en_Pc_ok en_f32_ok en_f64_ok hl (by decide +kernel) ⟨en_FTX7_ok, en_PTX7_ok, en_an, en_LTX7_ok, en_LLX7_ok, en_TTX7_ok hl, ⟨cw256, cw147⟩, en_ACX7_ok⟩ de_X7_isIn ck_X7_isIn_56
def k_X7_isIn_57 : en_K := (3, ([.inl ((-2), 21, 0, 0), .inl (0, 0, 0, 0), .inl (19, 19, 0, 0)], [(5, 0, 0, 0, 0, 0)]), [([.inl (20, 21, 0, 0), .inl (0, 0, 0, 0), .inl (19, 19, 0, 0), .inl (0, 0, 0, 0)], [(5, 0, 0, 0, 0, 0)]), ([.inl ((-2), (-1), 0, 0), .inl (0, 0, 0, 0), .inl (19, 19, 0, 0), .inl (0, 0, 0, 0)], [(5, 0, 0, 0, 0, 0)]), ([.inl (0, 19, 0, 0), .inl (0, 0, 0, 0), .inl (19, 19, 0, 0), .inl (1, 1, 0, 0)], [(5, 0, 0, 0, 0, 0)])], [], [], (0, 0), [])
def u_X7_isIn_57 : List en_U := []
def x_X7_isIn_57 : en_Cx := ((en_KT, en_TY0, en_om0), en_FTX7, en_PTX7, [], en_LTX7, en_LLX7, en_TTX7, en_ACX7)
def m_X7_isIn_57 : en_Mx := (k_X7_isIn_57, 0, 3, (0, 2), tb_X7_isIn, [])
set_option maxRecDepth 100000 in
theorem ck_X7_isIn_57 : en_all x_X7_isIn_57 m_X7_isIn_57 u_X7_isIn_57 12 = true := by decide +kernel
theorem ct_X7_isIn_57 {l : Launch} (hl : l.stackTraces = false) {cx cy : Int32} : en_Ctr l vwCl en_TY0 (en_Pc cx cy) en_om0 (en_Of cx cy) en_KT yX7_isIn (Cond.code yX7_isIn cX7_isIn 3 (some .boolean) :: en_cw) (en_rm 0 (0, 0)) 0 k_X7_isIn_57 :=
  en_main (X := x_X7_isIn_57) (M := m_X7_isIn_57) en_Pc_ok en_f32_ok en_f64_ok hl (by decide +kernel) ⟨en_FTX7_ok, en_PTX7_ok, en_an, en_LTX7_ok, en_LLX7_ok, en_TTX7_ok hl, ⟨cw256, cw147⟩, en_ACX7_ok⟩ de_X7_isIn ck_X7_isIn_57
def k_X7_isCell_14 : en_K := (2, ([.inl ((-2), 31, 0, 0), .inl ((-2), 21, 0, 0)], [(5, 0, 0, 0, 0, 0)]), [([.inl (0, 29, 0, 0), .inl ((-2), (-1), 0, 0), .inl (0, 0, 0, 0)], [(5, 0, 0, 0, 0, 0)]), ([.inl (0, 29, 0, 0), .inl (20, 21, 0, 0), .inl (0, 0, 0, 0)], [(5, 0, 0, 0, 0, 0)]), ([.inl ((-2), (-1), 0, 0), .inl ((-2), 21, 0, 0), .inl (0, 0, 0, 0)], [(5, 0, 0, 0, 0, 0)]), ([.inl (30, 31, 0, 0), .inl ((-2), 21, 0, 0), .inl (0, 0, 0, 0)], [(5, 0, 0, 0, 0, 0)]), ([.inl (0, 29, 0, 0), .inl (0, 19, 0, 0), .inl (1, 1, 0, 0)], [(5, 0, 0, 0, 0, 0)])], [], [], (0, 0), [])
def u_X7_isCell_14 : List en_U := []
def x_X7_isCell_14 : en_Cx := ((en_KT, en_TY0, en_om0), en_FTX7, en_PTX7, [(82, false, 0, 0, 0, k_X7_isIn_57), (82, false, 0, 0, 0, k_X7_isIn_56)], en_LTX7, en_LLX7, en_TTX7, en_ACX7)
def m_X7_isCell_14 : en_Mx := (k_X7_isCell_14, 1, 2, (0, 2), tb_X7_isCell, [])
set_option maxRecDepth 100000 in
theorem ck_X7_isCell_14 : en_all x_X7_isCell_14 m_X7_isCell_14 u_X7_isCell_14 16 = true := by decide +kernel
theorem ct_X7_isCell_14 {l : Launch} (hl : l.stackTraces = false) {cx cy : Int32} : en_Ctr l vwCl en_TY0 (en_Pc cx cy) en_om0 (en_Of cx cy) en_KT yX7_isCell (Cond.code yX7_isCell cX7_isCell 2 (some .boolean) :: en_cw) (en_rm 1 (0, 0)) 0 k_X7_isCell_14 :=
  en_main (X := x_X7_isCell_14) (M := m_X7_isCell_14) en_Pc_ok en_f32_ok en_f64_ok hl (by decide +kernel) ⟨en_FTX7_ok, en_PTX7_ok, en_ac (⟨yX7_isIn, RX7, cX7_isIn, 3, (some .boolean), by decide, ct_X7_isIn_57 hl, fun h => Bool.noConfusion h, fun _ => gc_RX7_82s⟩) (en_ac (⟨yX7_isIn, RX7, cX7_isIn, 3, (some .boolean), by decide, ct_X7_isIn_56 hl, fun h => Bool.noConfusion h, fun _ => gc_RX7_82s⟩) en_an), en_LTX7_ok, en_LLX7_ok, en_TTX7_ok hl, ⟨cw256, cw147⟩, en_ACX7_ok⟩ de_X7_isCell ck_X7_isCell_14
def k_X7_isIn_58 : en_K := (3, ([.inl (30, 31, 0, 0), .inl (0, 0, 0, 0), .inl (29, 29, 0, 0)], [(5, 0, 0, 0, 0, 0)]), [([.inl (30, 31, 0, 0), .inl (0, 0, 0, 0), .inl (29, 29, 0, 0), .inl (0, 0, 0, 0)], [(5, 0, 0, 0, 0, 0)])], [], [], (0, 0), [])
def u_X7_isIn_58 : List en_U := []
def x_X7_isIn_58 : en_Cx := ((en_KT, en_TY0, en_om0), en_FTX7, en_PTX7, [], en_LTX7, en_LLX7, en_TTX7, en_ACX7)
def m_X7_isIn_58 : en_Mx := (k_X7_isIn_58, 0, 3, (0, 2), tb_X7_isIn, [])
set_option maxRecDepth 100000 in
theorem ck_X7_isIn_58 : en_all x_X7_isIn_58 m_X7_isIn_58 u_X7_isIn_58 11 = true := by decide +kernel
theorem ct_X7_isIn_58 {l : Launch} (hl : l.stackTraces = false) {cx cy : Int32} : en_Ctr l vwCl en_TY0 (en_Pc cx cy) en_om0 (en_Of cx cy) en_KT yX7_isIn (Cond.code yX7_isIn cX7_isIn 3 (some .boolean) :: en_cw) (en_rm 0 (0, 0)) 0 k_X7_isIn_58 :=
  en_main (X := x_X7_isIn_58) (M := m_X7_isIn_58) en_Pc_ok en_f32_ok en_f64_ok hl (by decide +kernel) ⟨en_FTX7_ok, en_PTX7_ok, en_an, en_LTX7_ok, en_LLX7_ok, en_TTX7_ok hl, ⟨cw256, cw147⟩, en_ACX7_ok⟩ de_X7_isIn ck_X7_isIn_58
def k_X7_isCell_15 : en_K := (2, ([.inl (30, 31, 0, 0), .inl ((-2), 21, 0, 0)], [(5, 0, 0, 0, 0, 0)]), [([.inl (30, 31, 0, 0), .inl ((-2), 21, 0, 0), .inl (0, 0, 0, 0)], [(5, 0, 0, 0, 0, 0)])], [], [], (0, 0), [])
def u_X7_isCell_15 : List en_U := []
def x_X7_isCell_15 : en_Cx := ((en_KT, en_TY0, en_om0), en_FTX7, en_PTX7, [(82, false, 0, 0, 0, k_X7_isIn_58)], en_LTX7, en_LLX7, en_TTX7, en_ACX7)
def m_X7_isCell_15 : en_Mx := (k_X7_isCell_15, 1, 2, (0, 2), tb_X7_isCell, [])
set_option maxRecDepth 100000 in
theorem ck_X7_isCell_15 : en_all x_X7_isCell_15 m_X7_isCell_15 u_X7_isCell_15 10 = true := by decide +kernel
theorem ct_X7_isCell_15 {l : Launch} (hl : l.stackTraces = false) {cx cy : Int32} : en_Ctr l vwCl en_TY0 (en_Pc cx cy) en_om0 (en_Of cx cy) en_KT yX7_isCell (Cond.code yX7_isCell cX7_isCell 2 (some .boolean) :: en_cw) (en_rm 1 (0, 0)) 0 k_X7_isCell_15 :=
  en_main (X := x_X7_isCell_15) (M := m_X7_isCell_15) en_Pc_ok en_f32_ok en_f64_ok hl (by decide +kernel) ⟨en_FTX7_ok, en_PTX7_ok, en_ac (⟨yX7_isIn, RX7, cX7_isIn, 3, (some .boolean), by decide, ct_X7_isIn_58 hl, fun h => Bool.noConfusion h, fun _ => gc_RX7_82s⟩) en_an, en_LTX7_ok, en_LLX7_ok, en_TTX7_ok hl, ⟨cw256, cw147⟩, en_ACX7_ok⟩ de_X7_isCell ck_X7_isCell_15
def k_X7_isIn_59 : en_K := (3, ([.inl ((-2), (-1), 0, 0), .inl (0, 0, 0, 0), .inl (29, 29, 0, 0)], [(5, 0, 0, 0, 0, 0)]), [([.inl ((-2), (-1), 0, 0), .inl (0, 0, 0, 0), .inl (29, 29, 0, 0), .inl (0, 0, 0, 0)], [(5, 0, 0, 0, 0, 0)])], [], [], (0, 0), [])
def u_X7_isIn_59 : List en_U := []
def x_X7_isIn_59 : en_Cx := ((en_KT, en_TY0, en_om0), en_FTX7, en_PTX7, [], en_LTX7, en_LLX7, en_TTX7, en_ACX7)
def m_X7_isIn_59 : en_Mx := (k_X7_isIn_59, 0, 3, (0, 2), tb_X7_isIn, [])
set_option maxRecDepth 100000 in
theorem ck_X7_isIn_59 : en_all x_X7_isIn_59 m_X7_isIn_59 u_X7_isIn_59 8 = true := by decide +kernel
theorem ct_X7_isIn_59 {l : Launch} (hl : l.stackTraces = false) {cx cy : Int32} : en_Ctr l vwCl en_TY0 (en_Pc cx cy) en_om0 (en_Of cx cy) en_KT yX7_isIn (Cond.code yX7_isIn cX7_isIn 3 (some .boolean) :: en_cw) (en_rm 0 (0, 0)) 0 k_X7_isIn_59 :=
  en_main (X := x_X7_isIn_59) (M := m_X7_isIn_59) en_Pc_ok en_f32_ok en_f64_ok hl (by decide +kernel) ⟨en_FTX7_ok, en_PTX7_ok, en_an, en_LTX7_ok, en_LLX7_ok, en_TTX7_ok hl, ⟨cw256, cw147⟩, en_ACX7_ok⟩ de_X7_isIn ck_X7_isIn_59
