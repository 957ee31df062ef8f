def k_X7_isIn_7 : en_K := (3, ([.inl (1, 2147483647, 0, 0), .inl (0, 0, 0, 0), .inl (0, 0, 0, 0)], []), [([.inl (1, 2147483647, 0, 0), .inl (0, 0, 0, 0), .inl (0, 0, 0, 0), .inl (0, 0, 0, 0)], [])], [], [], (0, 0), [])
def u_X7_isIn_7 : List en_U := []
def x_X7_isIn_7 : en_Cx := ((en_KT, en_TY0, en_om0), en_FTX7, en_PTX7, [], en_LTX7, en_LLX7, en_TTX7, en_ACX7)
def m_X7_isIn_7 : en_Mx := (k_X7_isIn_7, 0, 3, (0, 2), tb_X7_isIn, [])
set_option maxRecDepth 100000 in
theorem ck_X7_isIn_7 : en_all x_X7_isIn_7 m_X7_isIn_7 u_X7_isIn_7 11 = true := by decide +kernel
theorem ct_X7_isIn_7 {l : Launch} (hl : l.stackTraces = false) {cx cy : Int32} : en_Ctr l vwCl en_TY0 (en_Pc cx cy) en_om0 (en_Of cx cy) en_KT yX7_isIn (Cond.code yX7_isIn cX7_isIn 3 (some .boolean) :: en_cw) (en_rm 0 (0, 0)) 0 k_X7_isIn_7 :=
  en_main (X := x_X7_isIn_7) (M := m_X7_isIn_7) en_Pc_ok en_f32_ok en_f64_ok hl (by decide +kernel) ⟨en_FTX7_ok, en_PTX7_ok, en_an, en_LTX7_ok, en_LLX7_ok, en_TTX7_ok hl, ⟨cw256, cw147⟩, en_ACX7_ok⟩ de_X7_isIn ck_X7_isIn_7
def k_X7_isNoHole_3 : en_K := (2, ([.inr (.inl 20), .inl (1, 2147483647, 0, 0), .inl (1, 1, 0, 0)], [(0, 0, 16, 2, 0, 0)]), [([.inr (.inl 20), .inl (1, 2147483647, 0, 0), .inl (1, 1, 0, 0)], [])], [], [20], (0, 0), [])
def u_X7_isNoHole_3 : List en_U := []
def x_X7_isNoHole_3 : en_Cx := ((en_KT, en_TY0, en_om0), en_FTX7, en_PTX7, [(82, false, 0, 0, 0, k_X7_isIn_7)], en_LTX7, en_LLX7, en_TTX7, en_ACX7)
def m_X7_isNoHole_3 : en_Mx := (k_X7_isNoHole_3, 1, 2, (0, 2), tb_X7_isNoHole, [])
set_option maxRecDepth 100000 in
theorem ck_X7_isNoHole_3 : en_all x_X7_isNoHole_3 m_X7_isNoHole_3 u_X7_isNoHole_3 14 = true := by decide +kernel
theorem ct_X7_isNoHole_3 {l : Launch} (hl : l.stackTraces = false) {cx cy : Int32} : en_Ctr l vwCl en_TY0 (en_Pc cx cy) en_om0 (en_Of cx cy) en_KT yX7_isNoHole (Cond.code yX7_isNoHole cX7_isNoHole 2 (some .boolean) :: en_cw) (en_rm 1 (0, 0)) 0 k_X7_isNoHole_3 :=
  en_main (X := x_X7_isNoHole_3) (M := m_X7_isNoHole_3) en_Pc_ok en_f32_ok en_f64_ok hl (by decide +kernel) ⟨en_FTX7_ok, en_PTX7_ok, en_ac (⟨yX7_isIn, RX7, cX7_isIn, 3, (some .boolean), by decide, ct_X7_isIn_7 hl, fun h => Bool.noConfusion h, fun _ => gc_RX7_82s⟩) en_an, en_LTX7_ok, en_LLX7_ok, en_TTX7_ok hl, ⟨cw256, cw147⟩, en_ACX7_ok⟩ de_X7_isNoHole ck_X7_isNoHole_3
def k_X7_area_3 : en_K := (7, ([.inr (.inl 20), .inl (1, 2147483647, 0, 0), .inl (0, 65535, 0, 0), .inl ((-2147483648), 2147483647, 0, 0), .inl ((-2147483648), 2147483647, 0, 0), .inl ((-2147483648), 2147483647, 0, 0), .inl ((-2147483648), 2147483647, 0, 0), .inl (1, 1, 0, 0), .inl (0, 0, 0, 0)], [(0, 0, 16, 7, 0, 0), (0, 0, 21, 8, 0, 0)]), [([.inr (.inl 20), .inl (1, 2147483647, 0, 0), .inl (0, 65535, 0, 0), .inl ((-2147483648), 2147483647, 0, 0), .inl ((-2147483648), 2147483647, 0, 0), .inl ((-2147483648), 2147483647, 0, 0), .inl ((-2147483648), 2147483647, 0, 0), .inl (0, 0, 0, 0)], [])], [(20, 30), (43, 0)], [20, 43], (1, 9), [])
def u_X7_area_3 : List en_U := []
def x_X7_area_3 : en_Cx := ((en_KT, en_TY0, en_om0), en_FTX7, en_PTX7, [(106, false, 0, 0, 1, k_X7_isCell_0), (110, true, 13, 0, 0, k_X7_isThrown_0), (124, false, 0, 0, 0, k_X7_isKind_0), (128, true, 13, 0, 1, k_X7_isNoHole_3)], en_LTX7, en_LLX7, en_TTX7, en_ACX7)
def m_X7_area_3 : en_Mx := (k_X7_area_3, 2, 10, (0, 0), tb_X7_area, [])
set_option maxRecDepth 100000 in
theorem ck_X7_area_3 : en_all x_X7_area_3 m_X7_area_3 u_X7_area_3 32 = true := by decide +kernel
theorem ct_X7_area_3 {l : Launch} (hl : l.stackTraces = false) {cx cy : Int32} : en_Ctr l vwCl en_TY0 (en_Pc cx cy) en_om0 (en_Of cx cy) en_KT yX7_area (Cond.code yX7_area cX7_area 10 (some .int) :: en_cw) (en_rm 2 (1, 9)) 0 k_X7_area_3 :=
  en_main (X := x_X7_area_3) (M := m_X7_area_3) en_Pc_ok en_f32_ok en_f64_ok hl (by decide +kernel) ⟨en_FTX7_ok, en_PTX7_ok, en_ac (⟨yX7_isCell, RX7, cX7_isCell, 2, (some .boolean), by decide, ct_X7_isCell_0 hl, fun h => Bool.noConfusion h, fun _ => gc_RX7_106s⟩) (en_ac (⟨yX7_isThrown, RX7, cX7_isThrown, 3, (some .boolean), by decide, ct_X7_isThrown_0 hl, fun _ => ⟨gc_RX7_110v, by decide, _, rfl, rfl⟩, fun h => Bool.noConfusion h⟩) (en_ac (⟨yX7_isKind, RX7, cX7_isKind, 6, (some .boolean), by decide, ct_X7_isKind_0 hl, fun h => Bool.noConfusion h, fun _ => gc_RX7_124s⟩) (en_ac (⟨yX7_isNoHole, RX7, cX7_isNoHole, 2, (some .boolean), by decide, ct_X7_isNoHole_3 hl, fun _ => ⟨gc_RX7_128v, by decide, _, rfl, rfl⟩, fun h => Bool.noConfusion h⟩) en_an))), en_LTX7_ok, en_LLX7_ok, en_TTX7_ok hl, ⟨cw256, cw147⟩, en_ACX7_ok⟩ de_X7_area ck_X7_area_3
def k_X7_isIn_8 : en_K := (3, ([.inl (2, 2147483647, 0, 0), .inl (0, 0, 0, 0), .inl (1, 1, 0, 0)], []), [([.inl (2, 2147483647, 0, 0), .inl (0, 0, 0, 0), .inl (1, 1, 0, 0), .inl (0, 0, 0, 0)], [])], [], [], (0, 0), [])
def u_X7_isIn_8 : List en_U := []
def x_X7_isIn_8 : en_Cx := ((en_KT, en_TY0, en_om0), en_FTX7, en_PTX7, [], en_LTX7, en_LLX7, en_TTX7, en_ACX7)
def m_X7_isIn_8 : en_Mx := (k_X7_isIn_8, 0, 3, (0, 2), tb_X7_isIn, [])
set_option maxRecDepth 100000 in
theorem ck_X7_isIn_8 : en_all x_X7_isIn_8 m_X7_isIn_8 u_X7_isIn_8 11 = true := by decide +kernel
theorem ct_X7_isIn_8 {l : Launch} (hl : l.stackTraces = false) {cx cy : Int32} : en_Ctr l vwCl en_TY0 (en_Pc cx cy) en_om0 (en_Of cx cy) en_KT yX7_isIn (Cond.code yX7_isIn cX7_isIn 3 (some .boolean) :: en_cw) (en_rm 0 (0, 0)) 0 k_X7_isIn_8 :=
  en_main (X := x_X7_isIn_8) (M := m_X7_isIn_8) en_Pc_ok en_f32_ok en_f64_ok hl (by decide +kernel) ⟨en_FTX7_ok, en_PTX7_ok, en_an, en_LTX7_ok, en_LLX7_ok, en_TTX7_ok hl, ⟨cw256, cw147⟩, en_ACX7_ok⟩ de_X7_isIn ck_X7_isIn_8
def k_X7_isNoHole_4 : en_K := (2, ([.inr (.inl 20), .inl (2, 2147483647, 0, 0), .inl (2, 2, 0, 0)], [(0, 0, 16, 2, 0, 0)]), [([.inr (.inl 20), .inl (2, 2147483647, 0, 0), .inl (1, 1, 0, 0)], [])], [], [20], (0, 0), [])
def u_X7_isNoHole_4 : List en_U := []
def x_X7_isNoHole_4 : en_Cx := ((en_KT, en_TY0, en_om0), en_FTX7, en_PTX7, [(82, false, 0, 0, 0, k_X7_isIn_8)], en_LTX7, en_LLX7, en_TTX7, en_ACX7)
def m_X7_isNoHole_4 : en_Mx := (k_X7_isNoHole_4, 1, 2, (0, 2), tb_X7_isNoHole, [])
set_option maxRecDepth 100000 in
theorem ck_X7_isNoHole_4 : en_all x_X7_isNoHole_4 m_X7_isNoHole_4 u_X7_isNoHole_4 14 = true := by decide +kernel
theorem ct_X7_isNoHole_4 {l : Launch} (hl : l.stackTraces = false) {cx cy : Int32} : en_Ctr l vwCl en_TY0 (en_Pc cx cy) en_om0 (en_Of cx cy) en_KT yX7_isNoHole (Cond.code yX7_isNoHole cX7_isNoHole 2 (some .boolean) :: en_cw) (en_rm 1 (0, 0)) 0 k_X7_isNoHole_4 :=
  en_main (X := x_X7_isNoHole_4) (M := m_X7_isNoHole_4) en_Pc_ok en_f32_ok en_f64_ok hl (by decide +kernel) ⟨en_FTX7_ok, en_PTX7_ok, en_ac (⟨yX7_isIn, RX7, cX7_isIn, 3, (some .boolean), by decide, ct_X7_isIn_8 hl, fun h => Bool.noConfusion h, fun _ => gc_RX7_82s⟩) en_an, en_LTX7_ok, en_LLX7_ok, en_TTX7_ok hl, ⟨cw256, cw147⟩, en_ACX7_ok⟩ de_X7_isNoHole ck_X7_isNoHole_4
def k_X7_area_4 : en_K := (7, ([.inr (.inl 20), .inl (2, 2147483647, 0, 0), .inl (0, 65535, 0, 0), .inl ((-2147483648), 2147483647, 0, 0), .inl ((-2147483648), 2147483647, 0, 0), .inl ((-2147483648), 2147483647, 0, 0), .inl ((-2147483648), 2147483647, 0, 0), .inl (2, 2, 0, 0), .inl (0, 0, 0, 0)], [(0, 0, 16, 7, 0, 0), (0, 0, 21, 8, 0, 0)]), [([.inr (.inl 20), .inl (2, 2147483647, 0, 0), .inl (0, 65535, 0, 0), .inl ((-2147483648), 2147483647, 0, 0), .inl ((-2147483648), 2147483647, 0, 0), .inl ((-2147483648), 2147483647, 0, 0), .inl ((-2147483648), 2147483647, 0, 0), .inl (0, 0, 0, 0)], [])], [(20, 30), (43, 0)], [20, 43], (1, 9), [])
def u_X7_area_4 : List en_U := []
def x_X7_area_4 : en_Cx := ((en_KT, en_TY0, en_om0), en_FTX7, en_PTX7, [(106, false, 0, 0, 1, k_X7_isCell_0), (110, true, 13, 0, 0, k_X7_isThrown_0), (124, false, 0, 0, 0, k_X7_isKind_0), (128, true, 13, 0, 1, k_X7_isNoHole_4)], en_LTX7, en_LLX7, en_TTX7, en_ACX7)
def m_X7_area_4 : en_Mx := (k_X7_area_4, 2, 10, (0, 0), tb_X7_area, [])
set_option maxRecDepth 100000 in
theorem ck_X7_area_4 : en_all x_X7_area_4 m_X7_area_4 u_X7_area_4 32 = true := by decide +kernel
theorem ct_X7_area_4 {l : Launch} (hl : l.stackTraces = false) {cx cy : Int32} : en_Ctr l vwCl en_TY0 (en_Pc cx cy) en_om0 (en_Of cx cy) en_KT yX7_area (Cond.code yX7_area cX7_area 10 (some .int) :: en_cw) (en_rm 2 (1, 9)) 0 k_X7_area_4 :=
  en_main (X := x_X7_area_4) (M := m_X7_area_4) en_Pc_ok en_f32_ok en_f64_ok hl (by decide +kernel) ⟨en_FTX7_ok, en_PTX7_ok, en_ac (⟨yX7_isCell, RX7, cX7_isCell, 2, (some .boolean), by decide, ct_X7_isCell_0 hl, fun h => Bool.noConfusion h, fun _ => gc_RX7_106s⟩) (en_ac (⟨yX7_isThrown, RX7, cX7_isThrown, 3, (some .boolean), by decide, ct_X7_isThrown_0 hl, fun _ => ⟨gc_RX7_110v, by decide, _, rfl, rfl⟩, fun h => Bool.noConfusion h⟩) (en_ac (⟨yX7_isKind, RX7, cX7_isKind, 6, (some .boolean), by decide, ct_X7_isKind_0 hl, fun h => Bool.noConfusion h, fun _ => gc_RX7_124s⟩) (en_ac (⟨yX7_isNoHole, RX7, cX7_isNoHole, 2, (some .boolean), by decide, ct_X7_isNoHole_4 hl, fun _ => ⟨gc_RX7_128v, by decide, _, rfl, rfl⟩, fun h => Bool.noConfusion h⟩) en_an))), en_LTX7_ok, en_LLX7_ok, en_TTX7_ok hl, ⟨cw256, cw147⟩, en_ACX7_ok⟩ de_X7_area ck_X7_area_4
def k_X7_isIn_9 : en_K := (3, ([.inl (3, 2147483647, 0, 0), .inl (0, 0, 0, 0), .inl (2, 2, 0, 0)], []), [([.inl (3, 2147483647, 0, 0), .inl (0, 0, 0, 0), .inl (2, 2, 0, 0), .inl (0, 0, 0, 0)], [])], [], [], (0, 0), [])
def u_X7_isIn_9 : List en_U := []
def x_X7_isIn_9 : en_Cx := ((en_KT, en_TY0, en_om0), en_FTX7, en_PTX7, [], en_LTX7, en_LLX7, en_TTX7, en_ACX7)
def m_X7_isIn_9 : en_Mx := (k_X7_isIn_9, 0, 3, (0, 2), tb_X7_isIn, [])
set_option maxRecDepth 100000 in
theorem ck_X7_isIn_9 : en_all x_X7_isIn_9 m_X7_isIn_9 u_X7_isIn_9 11 = true := by decide +kernel
theorem ct_X7_isIn_9 {l : Launch} (hl : l.stackTraces = false) {cx cy : Int32} : en_Ctr l vwCl en_TY0 (en_Pc cx cy) en_om0 (en_Of cx cy) en_KT yX7_isIn (Cond.code yX7_isIn cX7_isIn 3 (some .boolean) :: en_cw) (en_rm 0 (0, 0)) 0 k_X7_isIn_9 :=
  en_main (X := x_X7_isIn_9) (M := m_X7_isIn_9) en_Pc_ok en_f32_ok en_f64_ok hl (by decide +kernel) ⟨en_FTX7_ok, en_PTX7_ok, en_an, en_LTX7_ok, en_LLX7_ok, en_TTX7_ok hl, ⟨cw256, cw147⟩, en_ACX7_ok⟩ de_X7_isIn ck_X7_isIn_9
def k_X7_isNoHole_5 : en_K := (2, ([.inr (.inl 20), .inl (3, 2147483647, 0, 0), .inl (3, 3, 0, 0)], [(0, 0, 16, 2, 0, 0)]), [([.inr (.inl 20), .inl (3, 2147483647, 0, 0), .inl (1, 1, 0, 0)], [])], [], [20], (0, 0), [])
def u_X7_isNoHole_5 : List en_U := []
def x_X7_isNoHole_5 : en_Cx := ((en_KT, en_TY0, en_om0), en_FTX7, en_PTX7, [(82, false, 0, 0, 0, k_X7_isIn_9)], en_LTX7, en_LLX7, en_TTX7, en_ACX7)
def m_X7_isNoHole_5 : en_Mx := (k_X7_isNoHole_5, 1, 2, (0, 2), tb_X7_isNoHole, [])
set_option maxRecDepth 100000 in
theorem ck_X7_isNoHole_5 : en_all x_X7_isNoHole_5 m_X7_isNoHole_5 u_X7_isNoHole_5 14 = true := by decide +kernel
theorem ct_X7_isNoHole_5 {l : Launch} (hl : l.stackTraces = false) {cx cy : Int32} : en_Ctr l vwCl en_TY0 (en_Pc cx cy) en_om0 (en_Of cx cy) en_KT yX7_isNoHole (Cond.code yX7_isNoHole cX7_isNoHole 2 (some .boolean) :: en_cw) (en_rm 1 (0, 0)) 0 k_X7_isNoHole_5 :=
  en_main (X := x_X7_isNoHole_5) (M := m_X7_isNoHole_5) en_Pc_ok en_f32_ok en_f64_ok hl (by decide +kernel) ⟨en_FTX7_ok, en_PTX7_ok, en_ac (⟨yX7_isIn, RX7, cX7_isIn, 3, (some .boolean), by decide, ct_X7_isIn_9 hl, fun h => Bool.noConfusion h, fun _ => gc_RX7_82s⟩) en_an, en_LTX7_ok, en_LLX7_ok, en_TTX7_ok hl, ⟨cw256, cw147⟩, en_ACX7_ok⟩ de_X7_isNoHole ck_X7_isNoHole_5
def k_X7_area_5 : en_K := (7, ([.inr (.inl 20), .inl (3, 2147483647, 0, 0), .inl (0, 65535, 0, 0), .inl ((-2147483648), 2147483647, 0, 0), .inl ((-2147483648), 2147483647, 0, 0), .inl ((-2147483648), 2147483647, 0, 0), .inl ((-2147483648), 2147483647, 0, 0), .inl (3, 3, 0, 0), .inl (0, 0, 0, 0)], [(0, 0, 16, 7, 0, 0), (0, 0, 21, 8, 0, 0)]), [([.inr (.inl 20), .inl (3, 2147483647, 0, 0), .inl (0, 65535, 0, 0), .inl ((-2147483648), 2147483647, 0, 0), .inl ((-2147483648), 2147483647, 0, 0), .inl ((-2147483648), 2147483647, 0, 0), .inl ((-2147483648), 2147483647, 0, 0), .inl (0, 0, 0, 0)], [])], [(20, 30), (43, 0)], [20, 43], (1, 9), [])
def u_X7_area_5 : List en_U := []
def x_X7_area_5 : en_Cx := ((en_KT, en_TY0, en_om0), en_FTX7, en_PTX7, [(106, false, 0, 0, 1, k_X7_isCell_0), (110, true, 13, 0, 0, k_X7_isThrown_0), (124, false, 0, 0, 0, k_X7_isKind_0), (128, true, 13, 0, 1, k_X7_isNoHole_5)], en_LTX7, en_LLX7, en_TTX7, en_ACX7)
def m_X7_area_5 : en_Mx := (k_X7_area_5, 2, 10, (0, 0), tb_X7_area, [])
set_option maxRecDepth 100000 in
theorem ck_X7_area_5 : en_all x_X7_area_5 m_X7_area_5 u_X7_area_5 32 = true := by decide +kernel
theorem ct_X7_area_5 {l : Launch} (hl : l.stackTraces = false) {cx cy : Int32} : en_Ctr l vwCl en_TY0 (en_Pc cx cy) en_om0 (en_Of cx cy) en_KT yX7_area (Cond.code yX7_area cX7_area 10 (some .int) :: en_cw) (en_rm 2 (1, 9)) 0 k_X7_area_5 :=
  en_main (X := x_X7_area_5) (M := m_X7_area_5) en_Pc_ok en_f32_ok en_f64_ok hl (by decide +kernel) ⟨en_FTX7_ok, en_PTX7_ok, en_ac (⟨yX7_isCell, RX7, cX7_isCell, 2, (some .boolean), by decide, ct_X7_isCell_0 hl, fun h => Bool.noConfusion h, fun _ => gc_RX7_106s⟩) (en_ac (⟨yX7_isThrown, RX7, cX7_isThrown, 3, (some .boolean), by decide, ct_X7_isThrown_0 hl, fun _ => ⟨gc_RX7_110v, by decide, _, rfl, rfl⟩, fun h => Bool.noConfusion h⟩) (en_ac (⟨yX7_isKind, RX7, cX7_isKind, 6, (some .boolean), by decide, ct_X7_isKind_0 hl, fun h => Bool.noConfusion h, fun _ => gc_RX7_124s⟩) (en_ac (⟨yX7_isNoHole, RX7, cX7_isNoHole, 2, (some .boolean), by decide, ct_X7_isNoHole_5 hl, fun _ => ⟨gc_RX7_128v, by decide, _, rfl, rfl⟩, fun h => Bool.noConfusion h⟩) en_an))), en_LTX7_ok, en_LLX7_ok, en_TTX7_ok hl, ⟨cw256, cw147⟩, en_ACX7_ok⟩ de_X7_area ck_X7_area_5
def k_X7_isIn_10 : en_K := (3, ([.inl (4, 2147483647, 0, 0), .inl (0, 0, 0, 0), .inl (3, 3, 0, 0)], []), [([.inl (4, 2147483647, 0, 0), .inl (0, 0, 0, 0), .inl (3, 3, 0, 0), .inl (0, 0, 0, 0)], [])], [], [], (0, 0), [])
def u_X7_isIn_10 : List en_U := []
def x_X7_isIn_10 : en_Cx := ((en_KT, en_TY0, en_om0), en_FTX7, en_PTX7, [], en_LTX7, en_LLX7, en_TTX7, en_ACX7)
def m_X7_isIn_10 : en_Mx := (k_X7_isIn_10, 0, 3, (0, 2), tb_X7_isIn, [])
set_option maxRecDepth 100000 in
theorem ck_X7_isIn_10 : en_all x_X7_isIn_10 m_X7_isIn_10 u_X7_isIn_10 11 = true := by decide +kernel
theorem ct_X7_isIn_10 {l : Launch} (hl : l.stackTraces = false) {cx cy : Int32} : en_Ctr l vwCl en_TY0 (en_Pc cx cy) en_om0 (en_Of cx cy) en_KT yX7_isIn (Cond.code yX7_isIn cX7_isIn 3 (some .boolean) :: en_cw) (en_rm 0 (0, 0)) 0 k_X7_isIn_10 :=
  en_main (X := x_X7_isIn_10) (M := m_X7_isIn_10) en_Pc_ok en_f32_ok en_f64_ok hl (by decide +kernel) ⟨en_FTX7_ok, en_PTX7_ok, en_an, en_LTX7_ok, en_LLX7_ok, en_TTX7_ok hl, ⟨cw256, cw147⟩, en_ACX7_ok⟩ de_X7_isIn ck_X7_isIn_10
def k_X7_isNoHole_6 : en_K := (2, ([.inr (.inl 20), .inl (4, 2147483647, 0, 0), .inl (4, 4, 0, 0)], [(0, 0, 16, 2, 0, 0)]), [([.inr (.inl 20), .inl (4, 2147483647, 0, 0), .inl (1, 1, 0, 0)], [])], [], [20], (0, 0), [])
def u_X7_isNoHole_6 : List en_U := []
def x_X7_isNoHole_6 : en_Cx := ((en_KT, en_TY0, en_om0), en_FTX7, en_PTX7, [(82, false, 0, 0, 0, k_X7_isIn_10)], en_LTX7, en_LLX7, en_TTX7, en_ACX7)
def m_X7_isNoHole_6 : en_Mx := (k_X7_isNoHole_6, 1, 2, (0, 2), tb_X7_isNoHole, [])
set_option maxRecDepth 100000 in
theorem ck_X7_isNoHole_6 : en_all x_X7_isNoHole_6 m_X7_isNoHole_6 u_X7_isNoHole_6 14 = true := by decide +kernel
theorem ct_X7_isNoHole_6 {l : Launch} (hl : l.stackTraces = false) {cx cy : Int32} : en_Ctr l vwCl en_TY0 (en_Pc cx cy) en_om0 (en_Of cx cy) en_KT yX7_isNoHole (Cond.code yX7_isNoHole cX7_isNoHole 2 (some .boolean) :: en_cw) (en_rm 1 (0, 0)) 0 k_X7_isNoHole_6 :=
  en_main (X := x_X7_isNoHole_6) (M := m_X7_isNoHole_6) en_Pc_ok en_f32_ok en_f64_ok hl (by decide +kernel) ⟨en_FTX7_ok, en_PTX7_ok, en_ac (⟨yX7_isIn, RX7, cX7_isIn, 3, (some .boolean), by decide, ct_X7_isIn_10 hl, fun h => Bool.noConfusion h, fun _ => gc_RX7_82s⟩) en_an, en_LTX7_ok, en_LLX7_ok, en_TTX7_ok hl, ⟨cw256, cw147⟩, en_ACX7_ok⟩ de_X7_isNoHole ck_X7_isNoHole_6
def k_X7_area_6 : en_K := (7, ([.inr (.inl 20), .inl (4, 2147483647, 0, 0), .inl (0, 65535, 0, 0), .inl ((-2147483648), 2147483647, 0, 0), .inl ((-2147483648), 2147483647, 0, 0), .inl ((-2147483648), 2147483647, 0, 0), .inl ((-2147483648), 2147483647, 0, 0), .inl (4, 4, 0, 0), .inl (0, 0, 0, 0)], [(0, 0, 16, 7, 0, 0), (0, 0, 21, 8, 0, 0)]), [([.inr (.inl 20), .inl (4, 2147483647, 0, 0), .inl (0, 65535, 0, 0), .inl ((-2147483648), 2147483647, 0, 0), .inl ((-2147483648), 2147483647, 0, 0), .inl ((-2147483648), 2147483647, 0, 0), .inl ((-2147483648), 2147483647, 0, 0), .inl (0, 0, 0, 0)], [])], [(20, 30), (43, 0)], [20, 43], (1, 9), [])
def u_X7_area_6 : List en_U := []
def x_X7_area_6 : en_Cx := ((en_KT, en_TY0, en_om0), en_FTX7, en_PTX7, [(106, false, 0, 0, 1, k_X7_isCell_0), (110, true, 13, 0, 0, k_X7_isThrown_0), (124, false, 0, 0, 0, k_X7_isKind_0), (128, true, 13, 0, 1, k_X7_isNoHole_6)], en_LTX7, en_LLX7, en_TTX7, en_ACX7)
def m_X7_area_6 : en_Mx := (k_X7_area_6, 2, 10, (0, 0), tb_X7_area, [])
set_option maxRecDepth 100000 in
theorem ck_X7_area_6 : en_all x_X7_area_6 m_X7_area_6 u_X7_area_6 32 = true := by decide +kernel
theorem ct_X7_area_6 {l : Launch} (hl : l.stackTraces = false) {cx cy : Int32} : en_Ctr l vwCl en_TY0 (en_Pc cx cy) en_om0 (en_Of cx cy) en_KT yX7_area (Cond.code yX7_area cX7_area 10 (some .int) :: en_cw) (en_rm 2 (1, 9)) 0 k_X7_area_6 :=
  en_main (X := x_X7_area_6) (M := m_X7_area_6) en_Pc_ok en_f32_ok en_f64_ok hl (by decide +kernel) ⟨en_FTX7_ok, en_PTX7_ok, en_ac (⟨yX7_isCell, RX7, cX7_isCell, 2, (some .boolean), by decide, ct_X7_isCell_0 hl, fun h => Bool.noConfusion h, fun _ => gc_RX7_106s⟩) (en_ac (⟨yX7_isThrown, RX7, cX7_isThrown, 3, (some .boolean), by decide, ct_X7_isThrown_0 hl, fun _ => ⟨gc_RX7_110v, by decide, _, rfl, rfl⟩, fun h => Bool.noConfusion h⟩) (en_ac (⟨yX7_isKind, RX7, cX7_isKind, 6, (some .boolean), by decide, ct_X7_isKind_0 hl, fun h => Bool.noConfusion h, fun _ => gc_RX7_124s⟩) (en_ac (⟨yX7_isNoHole, RX7, cX7_isNoHole, 2, (some .boolean), by decide, ct_X7_isNoHole_6 hl, fun _ => ⟨gc_RX7_128v, by decide, _, rfl, rfl⟩, fun h => Bool.noConfusion h⟩) en_an))), en_LTX7_ok, en_LLX7_ok, en_TTX7_ok hl, ⟨cw256, cw147⟩, en_ACX7_ok⟩ de_X7_area ck_X7_area_6
def k_X7_isIn_11 : en_K := (3, ([.inl (5, 2147483647, 0, 0), .inl (0, 0, 0, 0), .inl (4, 4, 0, 0)], []), [([.inl (5, 2147483647, 0, 0), .inl (0, 0, 0, 0), .inl (4, 4, 0, 0), .inl (0, 0, 0, 0)], [])], [], [], (0, 0), [])
def u_X7_isIn_11 : List en_U := []
def x_X7_isIn_11 : en_Cx := ((en_KT, en_TY0, en_om0), en_FTX7, en_PTX7, [], en_LTX7, en_LLX7, en_TTX7, en_ACX7)
def m_X7_isIn_11 : en_Mx := (k_X7_isIn_11, 0, 3, (0, 2), tb_X7_isIn, [])
set_option maxRecDepth 100000 in
theorem ck_X7_isIn_11 : en_all x_X7_isIn_11 m_X7_isIn_11 u_X7_isIn_11 11 = true := by decide +kernel
theorem ct_X7_isIn_11 {l : Launch} (hl : l.stackTraces = false) {cx cy : Int32} : en_Ctr l vwCl en_TY0 (en_Pc cx cy) en_om0 (en_Of cx cy) en_KT yX7_isIn (Cond.code yX7_isIn cX7_isIn 3 (some .boolean) :: en_cw) (en_rm 0 (0, 0)) 0 k_X7_isIn_11 :=
  en_main (X := x_X7_isIn_11) (M := m_X7_isIn_11) en_Pc_ok en_f32_ok en_f64_ok hl (by decide +kernel) ⟨en_FTX7_ok, en_PTX7_ok, en_an, en_LTX7_ok, en_LLX7_ok, en_TTX7_ok hl, ⟨cw256, cw147⟩, en_ACX7_ok⟩ de_X7_isIn ck_X7_isIn_11
def k_X7_isNoHole_7 : en_K := (2, ([.inr (.inl 20), .inl (5, 2147483647, 0, 0), .inl (5, 5, 0, 0)], [(0, 0, 16, 2, 0, 0)]), [([.inr (.inl 20), .inl (5, 2147483647, 0, 0), .inl (1, 1, 0, 0)], [])], [], [20], (0, 0), [])
def u_X7_isNoHole_7 : List en_U := []
def x_X7_isNoHole_7 : en_Cx := ((en_KT, en_TY0, en_om0), en_FTX7, en_PTX7, [(82, false, 0, 0, 0, k_X7_isIn_11)], en_LTX7, en_LLX7, en_TTX7, en_ACX7)
def m_X7_isNoHole_7 : en_Mx := (k_X7_isNoHole_7, 1, 2, (0, 2), tb_X7_isNoHole, [])
set_option maxRecDepth 100000 in
theorem ck_X7_isNoHole_7 : en_all x_X7_isNoHole_7 m_X7_isNoHole_7 u_X7_isNoHole_7 14 = true := by decide +kernel
theorem ct_X7_isNoHole_7 {l : Launch} (hl : l.stackTraces = false) {cx cy : Int32} : en_Ctr l vwCl en_TY0 (en_Pc cx cy) en_om0 (en_Of cx cy) en_KT yX7_isNoHole (Cond.code yX7_isNoHole cX7_isNoHole 2 (some .boolean) :: en_cw) (en_rm 1 (0, 0)) 0 k_X7_isNoHole_7 :=
  en_main (X := x_X7_isNoHole_7) (M := m_X7_isNoHole_7) en_Pc_ok en_f32_ok en_f64_ok hl (by decide +kernel) ⟨en_FTX7_ok, en_PTX7_ok, en_ac (⟨yX7_isIn, RX7, cX7_isIn, 3, (some .boolean), by decide, ct_X7_isIn_11 hl, fun h => Bool.noConfusion h, fun _ => gc_RX7_82s⟩) en_an, en_LTX7_ok, en_LLX7_ok, en_TTX7_ok hl, ⟨cw256, cw147⟩, en_ACX7_ok⟩ de_X7_isNoHole ck_X7_isNoHole_7
