def k_X7_area_7 : en_K := (7, ([.inr (.inl 20), .inl (5, 2147483647, 0, 0), .inl (0, 65535, 0, 0), .inl ((-2147483648), 2147483647, 0, 0), .inl ((-2147483648), 2147483647, 0, 0), .inl ((-2147483648), 2147483647, 0, 0), .inl ((-2147483648), 2147483647, 0, 0), .inl (5, 5, 0, 0), .inl (0, 0, 0, 0)], [(0, 0, 16, 7, 0, 0), (0, 0, 21, 8, 0, 0)]), [([.inr (.inl 20), .inl (5, 2147483647, 0, 0), .inl (0, 65535, 0, 0), .inl ((-2147483648), 2147483647, 0, 0), .inl ((-2147483648), 2147483647, 0, 0), .inl ((-2147483648), 2147483647, 0, 0), .inl ((-2147483648), 2147483647, 0, 0), .inl (0, 0, 0, 0)], [])], [(20, 30), (43, 0)], [20, 43], (1, 9), [])
def u_X7_area_7 : List en_U := []
def x_X7_area_7 : en_Cx := ((en_KT, en_TY0, en_om0), en_FTX7, en_PTX7, [(106, false, 0, 0, 1, k_X7_isCell_0), (110, true, 13, 0, 0, k_X7_isThrown_0), (124, false, 0, 0, 0, k_X7_isKind_0), (128, true, 13, 0, 1, k_X7_isNoHole_7)], en_LTX7, en_LLX7, en_TTX7, en_ACX7)
def m_X7_area_7 : en_Mx := (k_X7_area_7, 2, 10, (0, 0), tb_X7_area, [])
set_option maxRecDepth 100000 in
theorem ck_X7_area_7 : en_all x_X7_area_7 m_X7_area_7 u_X7_area_7 32 = true := by decide +kernel
theorem ct_X7_area_7 {l : Launch} (hl : l.stackTraces = false) {cx cy : Int32} : en_Ctr l vwCl en_TY0 (en_Pc cx cy) en_om0 (en_Of cx cy) en_KT yX7_area (Cond.code yX7_area cX7_area 10 (some .int) :: en_cw) (en_rm 2 (1, 9)) 0 k_X7_area_7 :=
  en_main (X := x_X7_area_7) (M := m_X7_area_7) en_Pc_ok en_f32_ok en_f64_ok hl (by decide +kernel) ⟨en_FTX7_ok, en_PTX7_ok, en_ac (⟨yX7_isCell, RX7, cX7_isCell, 2, (some .boolean), by decide, ct_X7_isCell_0 hl, fun h => Bool.noConfusion h, fun _ => gc_RX7_106s⟩) (en_ac (⟨yX7_isThrown, RX7, cX7_isThrown, 3, (some .boolean), by decide, ct_X7_isThrown_0 hl, fun _ => ⟨gc_RX7_110v, by decide, _, rfl, rfl⟩, fun h => Bool.noConfusion h⟩) (en_ac (⟨yX7_isKind, RX7, cX7_isKind, 6, (some .boolean), by decide, ct_X7_isKind_0 hl, fun h => Bool.noConfusion h, fun _ => gc_RX7_124s⟩) (en_ac (⟨yX7_isNoHole, RX7, cX7_isNoHole, 2, (some .boolean), by decide, ct_X7_isNoHole_7 hl, fun _ => ⟨gc_RX7_128v, by decide, _, rfl, rfl⟩, fun h => Bool.noConfusion h⟩) en_an))), en_LTX7_ok, en_LLX7_ok, en_TTX7_ok hl, ⟨cw256, cw147⟩, en_ACX7_ok⟩ de_X7_area ck_X7_area_7
def k_X7_isIn_12 : en_K := (3, ([.inl (6, 2147483647, 0, 0), .inl (0, 0, 0, 0), .inl (5, 5, 0, 0)], []), [([.inl (6, 2147483647, 0, 0), .inl (0, 0, 0, 0), .inl (5, 5, 0, 0), .inl (0, 0, 0, 0)], [])], [], [], (0, 0), [])
def u_X7_isIn_12 : List en_U := []
def x_X7_isIn_12 : en_Cx := ((en_KT, en_TY0, en_om0), en_FTX7, en_PTX7, [], en_LTX7, en_LLX7, en_TTX7, en_ACX7)
def m_X7_isIn_12 : en_Mx := (k_X7_isIn_12, 0, 3, (0, 2), tb_X7_isIn, [])
set_option maxRecDepth 100000 in
theorem ck_X7_isIn_12 : en_all x_X7_isIn_12 m_X7_isIn_12 u_X7_isIn_12 11 = true := by decide +kernel
theorem ct_X7_isIn_12 {l : Launch} (hl : l.stackTraces = false) {cx cy : Int32} : en_Ctr l vwCl en_TY0 (en_Pc cx cy) en_om0 (en_Of cx cy) en_KT yX7_isIn (Cond.code yX7_isIn cX7_isIn 3 (some .boolean) :: en_cw) (en_rm 0 (0, 0)) 0 k_X7_isIn_12 :=
  en_main (X := x_X7_isIn_12) (M := m_X7_isIn_12) en_Pc_ok en_f32_ok en_f64_ok hl (by decide +kernel) ⟨en_FTX7_ok, en_PTX7_ok, en_an, en_LTX7_ok, en_LLX7_ok, en_TTX7_ok hl, ⟨cw256, cw147⟩, en_ACX7_ok⟩ de_X7_isIn ck_X7_isIn_12
def k_X7_isNoHole_8 : en_K := (2, ([.inr (.inl 20), .inl (6, 2147483647, 0, 0), .inl (6, 6, 0, 0)], [(0, 0, 16, 2, 0, 0)]), [([.inr (.inl 20), .inl (6, 2147483647, 0, 0), .inl (1, 1, 0, 0)], [])], [], [20], (0, 0), [])
def u_X7_isNoHole_8 : List en_U := []
def x_X7_isNoHole_8 : en_Cx := ((en_KT, en_TY0, en_om0), en_FTX7, en_PTX7, [(82, false, 0, 0, 0, k_X7_isIn_12)], en_LTX7, en_LLX7, en_TTX7, en_ACX7)
def m_X7_isNoHole_8 : en_Mx := (k_X7_isNoHole_8, 1, 2, (0, 2), tb_X7_isNoHole, [])
set_option maxRecDepth 100000 in
theorem ck_X7_isNoHole_8 : en_all x_X7_isNoHole_8 m_X7_isNoHole_8 u_X7_isNoHole_8 14 = true := by decide +kernel
theorem ct_X7_isNoHole_8 {l : Launch} (hl : l.stackTraces = false) {cx cy : Int32} : en_Ctr l vwCl en_TY0 (en_Pc cx cy) en_om0 (en_Of cx cy) en_KT yX7_isNoHole (Cond.code yX7_isNoHole cX7_isNoHole 2 (some .boolean) :: en_cw) (en_rm 1 (0, 0)) 0 k_X7_isNoHole_8 :=
  en_main (X := x_X7_isNoHole_8) (M := m_X7_isNoHole_8) en_Pc_ok en_f32_ok en_f64_ok hl (by decide +kernel) ⟨en_FTX7_ok, en_PTX7_ok, en_ac (⟨yX7_isIn, RX7, cX7_isIn, 3, (some .boolean), by decide, ct_X7_isIn_12 hl, fun h => Bool.noConfusion h, fun _ => gc_RX7_82s⟩) en_an, en_LTX7_ok, en_LLX7_ok, en_TTX7_ok hl, ⟨cw256, cw147⟩, en_ACX7_ok⟩ de_X7_isNoHole ck_X7_isNoHole_8
def k_X7_area_8 : en_K := (7, ([.inr (.inl 20), .inl (6, 2147483647, 0, 0), .inl (0, 65535, 0, 0), .inl ((-2147483648), 2147483647, 0, 0), .inl ((-2147483648), 2147483647, 0, 0), .inl ((-2147483648), 2147483647, 0, 0), .inl ((-2147483648), 2147483647, 0, 0), .inl (6, 6, 0, 0), .inl (0, 0, 0, 0)], [(0, 0, 16, 7, 0, 0), (0, 0, 21, 8, 0, 0)]), [([.inr (.inl 20), .inl (6, 2147483647, 0, 0), .inl (0, 65535, 0, 0), .inl ((-2147483648), 2147483647, 0, 0), .inl ((-2147483648), 2147483647, 0, 0), .inl ((-2147483648), 2147483647, 0, 0), .inl ((-2147483648), 2147483647, 0, 0), .inl (0, 0, 0, 0)], [])], [(20, 30), (43, 0)], [20, 43], (1, 9), [])
def u_X7_area_8 : List en_U := []
def x_X7_area_8 : en_Cx := ((en_KT, en_TY0, en_om0), en_FTX7, en_PTX7, [(106, false, 0, 0, 1, k_X7_isCell_0), (110, true, 13, 0, 0, k_X7_isThrown_0), (124, false, 0, 0, 0, k_X7_isKind_0), (128, true, 13, 0, 1, k_X7_isNoHole_8)], en_LTX7, en_LLX7, en_TTX7, en_ACX7)
def m_X7_area_8 : en_Mx := (k_X7_area_8, 2, 10, (0, 0), tb_X7_area, [])
set_option maxRecDepth 100000 in
theorem ck_X7_area_8 : en_all x_X7_area_8 m_X7_area_8 u_X7_area_8 32 = true := by decide +kernel
theorem ct_X7_area_8 {l : Launch} (hl : l.stackTraces = false) {cx cy : Int32} : en_Ctr l vwCl en_TY0 (en_Pc cx cy) en_om0 (en_Of cx cy) en_KT yX7_area (Cond.code yX7_area cX7_area 10 (some .int) :: en_cw) (en_rm 2 (1, 9)) 0 k_X7_area_8 :=
  en_main (X := x_X7_area_8) (M := m_X7_area_8) en_Pc_ok en_f32_ok en_f64_ok hl (by decide +kernel) ⟨en_FTX7_ok, en_PTX7_ok, en_ac (⟨yX7_isCell, RX7, cX7_isCell, 2, (some .boolean), by decide, ct_X7_isCell_0 hl, fun h => Bool.noConfusion h, fun _ => gc_RX7_106s⟩) (en_ac (⟨yX7_isThrown, RX7, cX7_isThrown, 3, (some .boolean), by decide, ct_X7_isThrown_0 hl, fun _ => ⟨gc_RX7_110v, by decide, _, rfl, rfl⟩, fun h => Bool.noConfusion h⟩) (en_ac (⟨yX7_isKind, RX7, cX7_isKind, 6, (some .boolean), by decide, ct_X7_isKind_0 hl, fun h => Bool.noConfusion h, fun _ => gc_RX7_124s⟩) (en_ac (⟨yX7_isNoHole, RX7, cX7_isNoHole, 2, (some .boolean), by decide, ct_X7_isNoHole_8 hl, fun _ => ⟨gc_RX7_128v, by decide, _, rfl, rfl⟩, fun h => Bool.noConfusion h⟩) en_an))), en_LTX7_ok, en_LLX7_ok, en_TTX7_ok hl, ⟨cw256, cw147⟩, en_ACX7_ok⟩ de_X7_area ck_X7_area_8
def k_X7_isIn_13 : en_K := (3, ([.inl (7, 2147483647, 0, 0), .inl (0, 0, 0, 0), .inl (6, 6, 0, 0)], []), [([.inl (7, 2147483647, 0, 0), .inl (0, 0, 0, 0), .inl (6, 6, 0, 0), .inl (0, 0, 0, 0)], [])], [], [], (0, 0), [])
def u_X7_isIn_13 : List en_U := []
def x_X7_isIn_13 : en_Cx := ((en_KT, en_TY0, en_om0), en_FTX7, en_PTX7, [], en_LTX7, en_LLX7, en_TTX7, en_ACX7)
def m_X7_isIn_13 : en_Mx := (k_X7_isIn_13, 0, 3, (0, 2), tb_X7_isIn, [])
set_option maxRecDepth 100000 in
theorem ck_X7_isIn_13 : en_all x_X7_isIn_13 m_X7_isIn_13 u_X7_isIn_13 11 = true := by decide +kernel
theorem ct_X7_isIn_13 {l : Launch} (hl : l.stackTraces = false) {cx cy : Int32} : en_Ctr l vwCl en_TY0 (en_Pc cx cy) en_om0 (en_Of cx cy) en_KT yX7_isIn (Cond.code yX7_isIn cX7_isIn 3 (some .boolean) :: en_cw) (en_rm 0 (0, 0)) 0 k_X7_isIn_13 :=
  en_main (X := x_X7_isIn_13) (M := m_X7_isIn_13) en_Pc_ok en_f32_ok en_f64_ok hl (by decide +kernel) ⟨en_FTX7_ok, en_PTX7_ok, en_an, en_LTX7_ok, en_LLX7_ok, en_TTX7_ok hl, ⟨cw256, cw147⟩, en_ACX7_ok⟩ de_X7_isIn ck_X7_isIn_13
def k_X7_isNoHole_9 : en_K := (2, ([.inr (.inl 20), .inl (7, 2147483647, 0, 0), .inl (7, 7, 0, 0)], [(0, 0, 16, 2, 0, 0)]), [([.inr (.inl 20), .inl (7, 2147483647, 0, 0), .inl (1, 1, 0, 0)], [])], [], [20], (0, 0), [])
def u_X7_isNoHole_9 : List en_U := []
def x_X7_isNoHole_9 : en_Cx := ((en_KT, en_TY0, en_om0), en_FTX7, en_PTX7, [(82, false, 0, 0, 0, k_X7_isIn_13)], en_LTX7, en_LLX7, en_TTX7, en_ACX7)
def m_X7_isNoHole_9 : en_Mx := (k_X7_isNoHole_9, 1, 2, (0, 2), tb_X7_isNoHole, [])
set_option maxRecDepth 100000 in
theorem ck_X7_isNoHole_9 : en_all x_X7_isNoHole_9 m_X7_isNoHole_9 u_X7_isNoHole_9 14 = true := by decide +kernel
theorem ct_X7_isNoHole_9 {l : Launch} (hl : l.stackTraces = false) {cx cy : Int32} : en_Ctr l vwCl en_TY0 (en_Pc cx cy) en_om0 (en_Of cx cy) en_KT yX7_isNoHole (Cond.code yX7_isNoHole cX7_isNoHole 2 (some .boolean) :: en_cw) (en_rm 1 (0, 0)) 0 k_X7_isNoHole_9 :=
  en_main (X := x_X7_isNoHole_9) (M := m_X7_isNoHole_9) en_Pc_ok en_f32_ok en_f64_ok hl (by decide +kernel) ⟨en_FTX7_ok, en_PTX7_ok, en_ac (⟨yX7_isIn, RX7, cX7_isIn, 3, (some .boolean), by decide, ct_X7_isIn_13 hl, fun h => Bool.noConfusion h, fun _ => gc_RX7_82s⟩) en_an, en_LTX7_ok, en_LLX7_ok, en_TTX7_ok hl, ⟨cw256, cw147⟩, en_ACX7_ok⟩ de_X7_isNoHole ck_X7_isNoHole_9
def k_X7_area_9 : en_K := (7, ([.inr (.inl 20), .inl (7, 2147483647, 0, 0), .inl (0, 65535, 0, 0), .inl ((-2147483648), 2147483647, 0, 0), .inl ((-2147483648), 2147483647, 0, 0), .inl ((-2147483648), 2147483647, 0, 0), .inl ((-2147483648), 2147483647, 0, 0), .inl (7, 7, 0, 0), .inl (0, 0, 0, 0)], [(0, 0, 16, 7, 0, 0), (0, 0, 21, 8, 0, 0)]), [([.inr (.inl 20), .inl (7, 2147483647, 0, 0), .inl (0, 65535, 0, 0), .inl ((-2147483648), 2147483647, 0, 0), .inl ((-2147483648), 2147483647, 0, 0), .inl ((-2147483648), 2147483647, 0, 0), .inl ((-2147483648), 2147483647, 0, 0), .inl (0, 0, 0, 0)], [])], [(20, 30), (43, 0)], [20, 43], (1, 9), [])
def u_X7_area_9 : List en_U := []
def x_X7_area_9 : en_Cx := ((en_KT, en_TY0, en_om0), en_FTX7, en_PTX7, [(106, false, 0, 0, 1, k_X7_isCell_0), (110, true, 13, 0, 0, k_X7_isThrown_0), (124, false, 0, 0, 0, k_X7_isKind_0), (128, true, 13, 0, 1, k_X7_isNoHole_9)], en_LTX7, en_LLX7, en_TTX7, en_ACX7)
def m_X7_area_9 : en_Mx := (k_X7_area_9, 2, 10, (0, 0), tb_X7_area, [])
set_option maxRecDepth 100000 in
theorem ck_X7_area_9 : en_all x_X7_area_9 m_X7_area_9 u_X7_area_9 32 = true := by decide +kernel
theorem ct_X7_area_9 {l : Launch} (hl : l.stackTraces = false) {cx cy : Int32} : en_Ctr l vwCl en_TY0 (en_Pc cx cy) en_om0 (en_Of cx cy) en_KT yX7_area (Cond.code yX7_area cX7_area 10 (some .int) :: en_cw) (en_rm 2 (1, 9)) 0 k_X7_area_9 :=
  en_main (X := x_X7_area_9) (M := m_X7_area_9) en_Pc_ok en_f32_ok en_f64_ok hl (by decide +kernel) ⟨en_FTX7_ok, en_PTX7_ok, en_ac (⟨yX7_isCell, RX7, cX7_isCell, 2, (some .boolean), by decide, ct_X7_isCell_0 hl, fun h => Bool.noConfusion h, fun _ => gc_RX7_106s⟩) (en_ac (⟨yX7_isThrown, RX7, cX7_isThrown, 3, (some .boolean), by decide, ct_X7_isThrown_0 hl, fun _ => ⟨gc_RX7_110v, by decide, _, rfl, rfl⟩, fun h => Bool.noConfusion h⟩) (en_ac (⟨yX7_isKind, RX7, cX7_isKind, 6, (some .boolean), by decide, ct_X7_isKind_0 hl, fun h => Bool.noConfusion h, fun _ => gc_RX7_124s⟩) (en_ac (⟨yX7_isNoHole, RX7, cX7_isNoHole, 2, (some .boolean), by decide, ct_X7_isNoHole_9 hl, fun _ => ⟨gc_RX7_128v, by decide, _, rfl, rfl⟩, fun h => Bool.noConfusion h⟩) en_an))), en_LTX7_ok, en_LLX7_ok, en_TTX7_ok hl, ⟨cw256, cw147⟩, en_ACX7_ok⟩ de_X7_area ck_X7_area_9
def k_X7_isIn_14 : en_K := (3, ([.inl (8, 2147483647, 0, 0), .inl (0, 0, 0, 0), .inl (7, 7, 0, 0)], []), [([.inl (8, 2147483647, 0, 0), .inl (0, 0, 0, 0), .inl (7, 7, 0, 0), .inl (0, 0, 0, 0)], [])], [], [], (0, 0), [])
def u_X7_isIn_14 : List en_U := []
def x_X7_isIn_14 : en_Cx := ((en_KT, en_TY0, en_om0), en_FTX7, en_PTX7, [], en_LTX7, en_LLX7, en_TTX7, en_ACX7)
def m_X7_isIn_14 : en_Mx := (k_X7_isIn_14, 0, 3, (0, 2), tb_X7_isIn, [])
set_option maxRecDepth 100000 in
theorem ck_X7_isIn_14 : en_all x_X7_isIn_14 m_X7_isIn_14 u_X7_isIn_14 11 = true := by decide +kernel
theorem ct_X7_isIn_14 {l : Launch} (hl : l.stackTraces = false) {cx cy : Int32} : en_Ctr l vwCl en_TY0 (en_Pc cx cy) en_om0 (en_Of cx cy) en_KT yX7_isIn (Cond.code yX7_isIn cX7_isIn 3 (some .boolean) :: en_cw) (en_rm 0 (0, 0)) 0 k_X7_isIn_14 :=
  en_main (X := x_X7_isIn_14) (M := m_X7_isIn_14) en_Pc_ok en_f32_ok en_f64_ok hl (by decide +kernel) ⟨en_FTX7_ok, en_PTX7_ok, en_an, en_LTX7_ok, en_LLX7_ok, en_TTX7_ok hl, ⟨cw256, cw147⟩, en_ACX7_ok⟩ de_X7_isIn ck_X7_isIn_14
def k_X7_isNoHole_10 : en_K := (2, ([.inr (.inl 20), .inl (8, 2147483647, 0, 0), .inl (8, 8, 0, 0)], [(0, 0, 16, 2, 0, 0)]), [([.inr (.inl 20), .inl (8, 2147483647, 0, 0), .inl (1, 1, 0, 0)], [])], [], [20], (0, 0), [])
def u_X7_isNoHole_10 : List en_U := []
def x_X7_isNoHole_10 : en_Cx := ((en_KT, en_TY0, en_om0), en_FTX7, en_PTX7, [(82, false, 0, 0, 0, k_X7_isIn_14)], en_LTX7, en_LLX7, en_TTX7, en_ACX7)
def m_X7_isNoHole_10 : en_Mx := (k_X7_isNoHole_10, 1, 2, (0, 2), tb_X7_isNoHole, [])
set_option maxRecDepth 100000 in
theorem ck_X7_isNoHole_10 : en_all x_X7_isNoHole_10 m_X7_isNoHole_10 u_X7_isNoHole_10 14 = true := by decide +kernel
theorem ct_X7_isNoHole_10 {l : Launch} (hl : l.stackTraces = false) {cx cy : Int32} : en_Ctr l vwCl en_TY0 (en_Pc cx cy) en_om0 (en_Of cx cy) en_KT yX7_isNoHole (Cond.code yX7_isNoHole cX7_isNoHole 2 (some .boolean) :: en_cw) (en_rm 1 (0, 0)) 0 k_X7_isNoHole_10 :=
  en_main (X := x_X7_isNoHole_10) (M := m_X7_isNoHole_10) en_Pc_ok en_f32_ok en_f64_ok hl (by decide +kernel) ⟨en_FTX7_ok, en_PTX7_ok, en_ac (⟨yX7_isIn, RX7, cX7_isIn, 3, (some .boolean), by decide, ct_X7_isIn_14 hl, fun h => Bool.noConfusion h, fun _ => gc_RX7_82s⟩) en_an, en_LTX7_ok, en_LLX7_ok, en_TTX7_ok hl, ⟨cw256, cw147⟩, en_ACX7_ok⟩ de_X7_isNoHole ck_X7_isNoHole_10
def k_X7_area_10 : en_K := (7, ([.inr (.inl 20), .inl (8, 2147483647, 0, 0), .inl (0, 65535, 0, 0), .inl ((-2147483648), 2147483647, 0, 0), .inl ((-2147483648), 2147483647, 0, 0), .inl ((-2147483648), 2147483647, 0, 0), .inl ((-2147483648), 2147483647, 0, 0), .inl (8, 8, 0, 0), .inl (0, 0, 0, 0)], [(0, 0, 16, 7, 0, 0), (0, 0, 21, 8, 0, 0)]), [([.inr (.inl 20), .inl (8, 2147483647, 0, 0), .inl (0, 65535, 0, 0), .inl ((-2147483648), 2147483647, 0, 0), .inl ((-2147483648), 2147483647, 0, 0), .inl ((-2147483648), 2147483647, 0, 0), .inl ((-2147483648), 2147483647, 0, 0), .inl (0, 0, 0, 0)], [])], [(20, 30), (43, 0)], [20, 43], (1, 9), [])
def u_X7_area_10 : List en_U := []
def x_X7_area_10 : en_Cx := ((en_KT, en_TY0, en_om0), en_FTX7, en_PTX7, [(106, false, 0, 0, 1, k_X7_isCell_0), (110, true, 13, 0, 0, k_X7_isThrown_0), (124, false, 0, 0, 0, k_X7_isKind_0), (128, true, 13, 0, 1, k_X7_isNoHole_10)], en_LTX7, en_LLX7, en_TTX7, en_ACX7)
def m_X7_area_10 : en_Mx := (k_X7_area_10, 2, 10, (0, 0), tb_X7_area, [])
set_option maxRecDepth 100000 in
theorem ck_X7_area_10 : en_all x_X7_area_10 m_X7_area_10 u_X7_area_10 32 = true := by decide +kernel
theorem ct_X7_area_10 {l : Launch} (hl : l.stackTraces = false) {cx cy : Int32} : en_Ctr l vwCl en_TY0 (en_Pc cx cy) en_om0 (en_Of cx cy) en_KT yX7_area (Cond.code yX7_area cX7_area 10 (some .int) :: en_cw) (en_rm 2 (1, 9)) 0 k_X7_area_10 :=
  en_main (X := x_X7_area_10) (M := m_X7_area_10) en_Pc_ok en_f32_ok en_f64_ok hl (by decide +kernel) ⟨en_FTX7_ok, en_PTX7_ok, en_ac (⟨yX7_isCell, RX7, cX7_isCell, 2, (some .boolean), by decide, ct_X7_isCell_0 hl, fun h => Bool.noConfusion h, fun _ => gc_RX7_106s⟩) (en_ac (⟨yX7_isThrown, RX7, cX7_isThrown, 3, (some .boolean), by decide, ct_X7_isThrown_0 hl, fun _ => ⟨gc_RX7_110v, by decide, _, rfl, rfl⟩, fun h => Bool.noConfusion h⟩) (en_ac (⟨yX7_isKind, RX7, cX7_isKind, 6, (some .boolean), by decide, ct_X7_isKind_0 hl, fun h => Bool.noConfusion h, fun _ => gc_RX7_124s⟩) (en_ac (⟨yX7_isNoHole, RX7, cX7_isNoHole, 2, (some .boolean), by decide, ct_X7_isNoHole_10 hl, fun _ => ⟨gc_RX7_128v, by decide, _, rfl, rfl⟩, fun h => Bool.noConfusion h⟩) en_an))), en_LTX7_ok, en_LLX7_ok, en_TTX7_ok hl, ⟨cw256, cw147⟩, en_ACX7_ok⟩ de_X7_area ck_X7_area_10
def k_X7_isIn_15 : en_K := (3, ([.inl (9, 2147483647, 0, 0), .inl (0, 0, 0, 0), .inl (8, 8, 0, 0)], []), [([.inl (9, 2147483647, 0, 0), .inl (0, 0, 0, 0), .inl (8, 8, 0, 0), .inl (0, 0, 0, 0)], [])], [], [], (0, 0), [])
def u_X7_isIn_15 : List en_U := []
def x_X7_isIn_15 : en_Cx := ((en_KT, en_TY0, en_om0), en_FTX7, en_PTX7, [], en_LTX7, en_LLX7, en_TTX7, en_ACX7)
def m_X7_isIn_15 : en_Mx := (k_X7_isIn_15, 0, 3, (0, 2), tb_X7_isIn, [])
set_option maxRecDepth 100000 in
theorem ck_X7_isIn_15 : en_all x_X7_isIn_15 m_X7_isIn_15 u_X7_isIn_15 11 = true := by decide +kernel
theorem ct_X7_isIn_15 {l : Launch} (hl : l.stackTraces = false) {cx cy : Int32} : en_Ctr l vwCl en_TY0 (en_Pc cx cy) en_om0 (en_Of cx cy) en_KT yX7_isIn (Cond.code yX7_isIn cX7_isIn 3 (some .boolean) :: en_cw) (en_rm 0 (0, 0)) 0 k_X7_isIn_15 :=
  en_main (X := x_X7_isIn_15) (M := m_X7_isIn_15) en_Pc_ok en_f32_ok en_f64_ok hl (by decide +kernel) ⟨en_FTX7_ok, en_PTX7_ok, en_an, en_LTX7_ok, en_LLX7_ok, en_TTX7_ok hl, ⟨cw256, cw147⟩, en_ACX7_ok⟩ de_X7_isIn ck_X7_isIn_15
def k_X7_isNoHole_11 : en_K := (2, ([.inr (.inl 20), .inl (9, 2147483647, 0, 0), .inl (9, 9, 0, 0)], [(0, 0, 16, 2, 0, 0)]), [([.inr (.inl 20), .inl (9, 2147483647, 0, 0), .inl (1, 1, 0, 0)], [])], [], [20], (0, 0), [])
def u_X7_isNoHole_11 : List en_U := []
def x_X7_isNoHole_11 : en_Cx := ((en_KT, en_TY0, en_om0), en_FTX7, en_PTX7, [(82, false, 0, 0, 0, k_X7_isIn_15)], en_LTX7, en_LLX7, en_TTX7, en_ACX7)
def m_X7_isNoHole_11 : en_Mx := (k_X7_isNoHole_11, 1, 2, (0, 2), tb_X7_isNoHole, [])
set_option maxRecDepth 100000 in
theorem ck_X7_isNoHole_11 : en_all x_X7_isNoHole_11 m_X7_isNoHole_11 u_X7_isNoHole_11 14 = true := by decide +kernel
theorem ct_X7_isNoHole_11 {l : Launch} (hl : l.stackTraces = false) {cx cy : Int32} : en_Ctr l vwCl en_TY0 (en_Pc cx cy) en_om0 (en_Of cx cy) en_KT yX7_isNoHole (Cond.code yX7_isNoHole cX7_isNoHole 2 (some .boolean) :: en_cw) (en_rm 1 (0, 0)) 0 k_X7_isNoHole_11 :=
  en_main (X := x_X7_isNoHole_11) (M := m_X7_isNoHole_11) en_Pc_ok en_f32_ok en_f64_ok hl (by decide +kernel) ⟨en_FTX7_ok, en_PTX7_ok, en_ac (⟨yX7_isIn, RX7, cX7_isIn, 3, (some .boolean), by decide, ct_X7_isIn_15 hl, fun h => Bool.noConfusion h, fun _ => gc_RX7_82s⟩) en_an, en_LTX7_ok, en_LLX7_ok, en_TTX7_ok hl, ⟨cw256, cw147⟩, en_ACX7_ok⟩ de_X7_isNoHole ck_X7_isNoHole_11
def k_X7_area_11 : en_K := (7, ([.inr (.inl 20), .inl (9, 2147483647, 0, 0), .inl (0, 65535, 0, 0), .inl ((-2147483648), 2147483647, 0, 0), .inl ((-2147483648), 2147483647, 0, 0), .inl ((-2147483648), 2147483647, 0, 0), .inl ((-2147483648), 2147483647, 0, 0), .inl (9, 9, 0, 0), .inl (0, 0, 0, 0)], [(0, 0, 16, 7, 0, 0), (0, 0, 21, 8, 0, 0)]), [([.inr (.inl 20), .inl (9, 2147483647, 0, 0), .inl (0, 65535, 0, 0), .inl ((-2147483648), 2147483647, 0, 0), .inl ((-2147483648), 2147483647, 0, 0), .inl ((-2147483648), 2147483647, 0, 0), .inl ((-2147483648), 2147483647, 0, 0), .inl (0, 0, 0, 0)], [])], [(20, 30), (43, 0)], [20, 43], (1, 9), [])
def u_X7_area_11 : List en_U := []
def x_X7_area_11 : en_Cx := ((en_KT, en_TY0, en_om0), en_FTX7, en_PTX7, [(106, false, 0, 0, 1, k_X7_isCell_0), (110, true, 13, 0, 0, k_X7_isThrown_0), (124, false, 0, 0, 0, k_X7_isKind_0), (128, true, 13, 0, 1, k_X7_isNoHole_11)], en_LTX7, en_LLX7, en_TTX7, en_ACX7)
def m_X7_area_11 : en_Mx := (k_X7_area_11, 2, 10, (0, 0), tb_X7_area, [])
set_option maxRecDepth 100000 in
theorem ck_X7_area_11 : en_all x_X7_area_11 m_X7_area_11 u_X7_area_11 32 = true := by decide +kernel
theorem ct_X7_area_11 {l : Launch} (hl : l.stackTraces = false) {cx cy : Int32} : en_Ctr l vwCl en_TY0 (en_Pc cx cy) en_om0 (en_Of cx cy) en_KT yX7_area (Cond.code yX7_area cX7_area 10 (some .int) :: en_cw) (en_rm 2 (1, 9)) 0 k_X7_area_11 :=
  en_main (X := x_X7_area_11) (M := m_X7_area_11) en_Pc_ok en_f32_ok en_f64_ok hl (by decide +kernel) ⟨en_FTX7_ok, en_PTX7_ok, en_ac (⟨yX7_isCell, RX7, cX7_isCell, 2, (some .boolean), by decide, ct_X7_isCell_0 hl, fun h => Bool.noConfusion h, fun _ => gc_RX7_106s⟩) (en_ac (⟨yX7_isThrown, RX7, cX7_isThrown, 3, (some .boolean), by decide, ct_X7_isThrown_0 hl, fun _ => ⟨gc_RX7_110v, by decide, _, rfl, rfl⟩, fun h => Bool.noConfusion h⟩) (en_ac (⟨yX7_isKind, RX7, cX7_isKind, 6, (some .boolean), by decide, ct_X7_isKind_0 hl, fun h => Bool.noConfusion h, fun _ => gc_RX7_124s⟩) (en_ac (⟨yX7_isNoHole, RX7, cX7_isNoHole, 2, (some .boolean), by decide, ct_X7_isNoHole_11 hl, fun _ => ⟨gc_RX7_128v, by decide, _, rfl, rfl⟩, fun h => Bool.noConfusion h⟩) en_an))), en_LTX7_ok, en_LLX7_ok, en_TTX7_ok hl, ⟨cw256, cw147⟩, en_ACX7_ok⟩ de_X7_area ck_X7_area_11
def k_X7_isIn_16 : en_K := (3, ([.inl (0, 0, 0, 0), .inl (0, 0, 0, 0), .inl (0, 8, 0, 0)], []), [([.inl (0, 0, 0, 0), .inl (0, 0, 0, 0), .inl (0, 8, 0, 0), .inl (1, 1, 0, 0)], [])], [], [], (0, 0), [])
def u_X7_isIn_16 : List en_U := []
def x_X7_isIn_16 : en_Cx := ((en_KT, en_TY0, en_om0), en_FTX7, en_PTX7, [], en_LTX7, en_LLX7, en_TTX7, en_ACX7)
def m_X7_isIn_16 : en_Mx := (k_X7_isIn_16, 0, 3, (0, 2), tb_X7_isIn, [])
set_option maxRecDepth 100000 in
theorem ck_X7_isIn_16 : en_all x_X7_isIn_16 m_X7_isIn_16 u_X7_isIn_16 12 = true := by decide +kernel
theorem ct_X7_isIn_16 {l : Launch} (hl : l.stackTraces = false) {cx cy : Int32} : en_Ctr l vwCl en_TY0 (en_Pc cx cy) en_om0 (en_Of cx cy) en_KT yX7_isIn (Cond.code yX7_isIn cX7_isIn 3 (some .boolean) :: en_cw) (en_rm 0 (0, 0)) 0 k_X7_isIn_16 :=
  en_main (X := x_X7_isIn_16) (M := m_X7_isIn_16) en_Pc_ok en_f32_ok en_f64_ok hl (by decide +kernel) ⟨en_FTX7_ok, en_PTX7_ok, en_an, en_LTX7_ok, en_LLX7_ok, en_TTX7_ok hl, ⟨cw256, cw147⟩, en_ACX7_ok⟩ de_X7_isIn ck_X7_isIn_16
