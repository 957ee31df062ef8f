def k_X7_isIn_61 : en_K := (3, ([.inl ((-2), 31, 0, 0), .inl (0, 0, 0, 0), .inl (29, 29, 0, 0)], [(5, 0, 0, 0, 0, 0)]), [([.inl (30, 31, 0, 0), .inl (0, 0, 0, 0), .inl (29, 29, 0, 0), .inl (0, 0, 0, 0)], [(5, 0, 0, 0, 0, 0)]), ([.inl ((-2), (-1), 0, 0), .inl (0, 0, 0, 0), .inl (29, 29, 0, 0), .inl (0, 0, 0, 0)], [(5, 0, 0, 0, 0, 0)]), ([.inl (0, 29, 0, 0), .inl (0, 0, 0, 0), .inl (29, 29, 0, 0), .inl (1, 1, 0, 0)], [(5, 0, 0, 0, 0, 0)])], [], [], (0, 0), [])
def u_X7_isIn_61 : List en_U := []
def x_X7_isIn_61 : en_Cx := ((en_KT, en_TY0, en_om0), en_FTX7, en_PTX7, [], en_LTX7, en_LLX7, en_TTX7, en_ACX7)
def m_X7_isIn_61 : en_Mx := (k_X7_isIn_61, 0, 3, (0, 2), tb_X7_isIn, [])
set_option maxRecDepth 100000 in
theorem ck_X7_isIn_61 : en_all x_X7_isIn_61 m_X7_isIn_61 u_X7_isIn_61 12 = true := by decide +kernel
theorem ct_X7_isIn_61 {l : Launch} (hl : l.stackTraces = false) {cx cy : Int32} : en_Ctr l vwCl en_TY0 (en_Pc cx cy) en_om0 (en_Of cx cy) en_KT yX7_isIn (Cond.code yX7_isIn cX7_isIn 3 (some .boolean) :: en_cw) (en_rm 0 (0, 0)) 0 k_X7_isIn_61 :=
  en_main (X := x_X7_isIn_61) (M := m_X7_isIn_61) en_Pc_ok en_f32_ok en_f64_ok hl (by decide +kernel) ⟨en_FTX7_ok, en_PTX7_ok, en_an, en_LTX7_ok, en_LLX7_ok, en_TTX7_ok hl, ⟨cw256, cw147⟩, en_ACX7_ok⟩ de_X7_isIn ck_X7_isIn_61
def k_X7_isIn_62 : en_K := (3, ([.inl ((-2), 21, 0, 0), .inl (0, 0, 0, 0), .inl (19, 19, 0, 0)], [(5, 0, 0, 0, 0, 0)]), [([.inl (20, 21, 0, 0), .inl (0, 0, 0, 0), .inl (19, 19, 0, 0), .inl (0, 0, 0, 0)], [(5, 0, 0, 0, 0, 0)]), ([.inl ((-2), (-1), 0, 0), .inl (0, 0, 0, 0), .inl (19, 19, 0, 0), .inl (0, 0, 0, 0)], [(5, 0, 0, 0, 0, 0)]), ([.inl (0, 19, 0, 0), .inl (0, 0, 0, 0), .inl (19, 19, 0, 0), .inl (1, 1, 0, 0)], [(5, 0, 0, 0, 0, 0)])], [], [], (0, 0), [])
def u_X7_isIn_62 : List en_U := []
def x_X7_isIn_62 : en_Cx := ((en_KT, en_TY0, en_om0), en_FTX7, en_PTX7, [], en_LTX7, en_LLX7, en_TTX7, en_ACX7)
def m_X7_isIn_62 : en_Mx := (k_X7_isIn_62, 0, 3, (0, 2), tb_X7_isIn, [])
set_option maxRecDepth 100000 in
theorem ck_X7_isIn_62 : en_all x_X7_isIn_62 m_X7_isIn_62 u_X7_isIn_62 12 = true := by decide +kernel
theorem ct_X7_isIn_62 {l : Launch} (hl : l.stackTraces = false) {cx cy : Int32} : en_Ctr l vwCl en_TY0 (en_Pc cx cy) en_om0 (en_Of cx cy) en_KT yX7_isIn (Cond.code yX7_isIn cX7_isIn 3 (some .boolean) :: en_cw) (en_rm 0 (0, 0)) 0 k_X7_isIn_62 :=
  en_main (X := x_X7_isIn_62) (M := m_X7_isIn_62) en_Pc_ok en_f32_ok en_f64_ok hl (by decide +kernel) ⟨en_FTX7_ok, en_PTX7_ok, en_an, en_LTX7_ok, en_LLX7_ok, en_TTX7_ok hl, ⟨cw256, cw147⟩, en_ACX7_ok⟩ de_X7_isIn ck_X7_isIn_62
def k_X7_isCell_14 : en_K := (2, ([.inl ((-2), 31, 0, 0), .inl ((-2), 21, 0, 0)], [(5, 0, 0, 0, 0, 0)]), [([.inl (0, 29, 0, 0), .inl ((-2), (-1), 0, 0), .inl (0, 0, 0, 0)], [(5, 0, 0, 0, 0, 0)]), ([.inl (0, 29, 0, 0), .inl (20, 21, 0, 0), .inl (0, 0, 0, 0)], [(5, 0, 0, 0, 0, 0)]), ([.inl ((-2), (-1), 0, 0), .inl ((-2), 21, 0, 0), .inl (0, 0, 0, 0)], [(5, 0, 0, 0, 0, 0)]), ([.inl (30, 31, 0, 0), .inl ((-2), 21, 0, 0), .inl (0, 0, 0, 0)], [(5, 0, 0, 0, 0, 0)]), ([.inl (0, 29, 0, 0), .inl (0, 19, 0, 0), .inl (1, 1, 0, 0)], [(5, 0, 0, 0, 0, 0)])], [], [], (0, 0), [])
def u_X7_isCell_14 : List en_U := []
def x_X7_isCell_14 : en_Cx := ((en_KT, en_TY0, en_om0), en_FTX7, en_PTX7, [(82, false, 0, 0, 0, k_X7_isIn_62), (82, false, 0, 0, 0, k_X7_isIn_61)], en_LTX7, en_LLX7, en_TTX7, en_ACX7)
def m_X7_isCell_14 : en_Mx := (k_X7_isCell_14, 1, 2, (0, 2), tb_X7_isCell, [])
set_option maxRecDepth 100000 in
theorem ck_X7_isCell_14 : en_all x_X7_isCell_14 m_X7_isCell_14 u_X7_isCell_14 16 = true := by decide +kernel
theorem ct_X7_isCell_14 {l : Launch} (hl : l.stackTraces = false) {cx cy : Int32} : en_Ctr l vwCl en_TY0 (en_Pc cx cy) en_om0 (en_Of cx cy) en_KT yX7_isCell (Cond.code yX7_isCell cX7_isCell 2 (some .boolean) :: en_cw) (en_rm 1 (0, 0)) 0 k_X7_isCell_14 :=
  en_main (X := x_X7_isCell_14) (M := m_X7_isCell_14) en_Pc_ok en_f32_ok en_f64_ok hl (by decide +kernel) ⟨en_FTX7_ok, en_PTX7_ok, en_ac (⟨yX7_isIn, RX7, cX7_isIn, 3, (some .boolean), by decide, ct_X7_isIn_62 hl, fun h => Bool.noConfusion h, fun _ => gc_RX7_82s⟩) (en_ac (⟨yX7_isIn, RX7, cX7_isIn, 3, (some .boolean), by decide, ct_X7_isIn_61 hl, fun h => Bool.noConfusion h, fun _ => gc_RX7_82s⟩) en_an), en_LTX7_ok, en_LLX7_ok, en_TTX7_ok hl, ⟨cw256, cw147⟩, en_ACX7_ok⟩ de_X7_isCell ck_X7_isCell_14
def k_X7_isIn_63 : en_K := (3, ([.inl (30, 31, 0, 0), .inl (0, 0, 0, 0), .inl (29, 29, 0, 0)], [(5, 0, 0, 0, 0, 0)]), [([.inl (30, 31, 0, 0), .inl (0, 0, 0, 0), .inl (29, 29, 0, 0), .inl (0, 0, 0, 0)], [(5, 0, 0, 0, 0, 0)])], [], [], (0, 0), [])
def u_X7_isIn_63 : List en_U := []
def x_X7_isIn_63 : en_Cx := ((en_KT, en_TY0, en_om0), en_FTX7, en_PTX7, [], en_LTX7, en_LLX7, en_TTX7, en_ACX7)
def m_X7_isIn_63 : en_Mx := (k_X7_isIn_63, 0, 3, (0, 2), tb_X7_isIn, [])
set_option maxRecDepth 100000 in
theorem ck_X7_isIn_63 : en_all x_X7_isIn_63 m_X7_isIn_63 u_X7_isIn_63 11 = true := by decide +kernel
theorem ct_X7_isIn_63 {l : Launch} (hl : l.stackTraces = false) {cx cy : Int32} : en_Ctr l vwCl en_TY0 (en_Pc cx cy) en_om0 (en_Of cx cy) en_KT yX7_isIn (Cond.code yX7_isIn cX7_isIn 3 (some .boolean) :: en_cw) (en_rm 0 (0, 0)) 0 k_X7_isIn_63 :=
  en_main (X := x_X7_isIn_63) (M := m_X7_isIn_63) en_Pc_ok en_f32_ok en_f64_ok hl (by decide +kernel) ⟨en_FTX7_ok, en_PTX7_ok, en_an, en_LTX7_ok, en_LLX7_ok, en_TTX7_ok hl, ⟨cw256, cw147⟩, en_ACX7_ok⟩ de_X7_isIn ck_X7_isIn_63
def k_X7_isCell_15 : en_K := (2, ([.inl (30, 31, 0, 0), .inl ((-2), 21, 0, 0)], [(5, 0, 0, 0, 0, 0)]), [([.inl (30, 31, 0, 0), .inl ((-2), 21, 0, 0), .inl (0, 0, 0, 0)], [(5, 0, 0, 0, 0, 0)])], [], [], (0, 0), [])
def u_X7_isCell_15 : List en_U := []
def x_X7_isCell_15 : en_Cx := ((en_KT, en_TY0, en_om0), en_FTX7, en_PTX7, [(82, false, 0, 0, 0, k_X7_isIn_63)], en_LTX7, en_LLX7, en_TTX7, en_ACX7)
def m_X7_isCell_15 : en_Mx := (k_X7_isCell_15, 1, 2, (0, 2), tb_X7_isCell, [])
set_option maxRecDepth 100000 in
theorem ck_X7_isCell_15 : en_all x_X7_isCell_15 m_X7_isCell_15 u_X7_isCell_15 10 = true := by decide +kernel
theorem ct_X7_isCell_15 {l : Launch} (hl : l.stackTraces = false) {cx cy : Int32} : en_Ctr l vwCl en_TY0 (en_Pc cx cy) en_om0 (en_Of cx cy) en_KT yX7_isCell (Cond.code yX7_isCell cX7_isCell 2 (some .boolean) :: en_cw) (en_rm 1 (0, 0)) 0 k_X7_isCell_15 :=
  en_main (X := x_X7_isCell_15) (M := m_X7_isCell_15) en_Pc_ok en_f32_ok en_f64_ok hl (by decide +kernel) ⟨en_FTX7_ok, en_PTX7_ok, en_ac (⟨yX7_isIn, RX7, cX7_isIn, 3, (some .boolean), by decide, ct_X7_isIn_63 hl, fun h => Bool.noConfusion h, fun _ => gc_RX7_82s⟩) en_an, en_LTX7_ok, en_LLX7_ok, en_TTX7_ok hl, ⟨cw256, cw147⟩, en_ACX7_ok⟩ de_X7_isCell ck_X7_isCell_15
def k_X7_isIn_64 : en_K := (3, ([.inl ((-2), (-1), 0, 0), .inl (0, 0, 0, 0), .inl (29, 29, 0, 0)], [(5, 0, 0, 0, 0, 0)]), [([.inl ((-2), (-1), 0, 0), .inl (0, 0, 0, 0), .inl (29, 29, 0, 0), .inl (0, 0, 0, 0)], [(5, 0, 0, 0, 0, 0)])], [], [], (0, 0), [])
def u_X7_isIn_64 : List en_U := []
def x_X7_isIn_64 : en_Cx := ((en_KT, en_TY0, en_om0), en_FTX7, en_PTX7, [], en_LTX7, en_LLX7, en_TTX7, en_ACX7)
def m_X7_isIn_64 : en_Mx := (k_X7_isIn_64, 0, 3, (0, 2), tb_X7_isIn, [])
set_option maxRecDepth 100000 in
theorem ck_X7_isIn_64 : en_all x_X7_isIn_64 m_X7_isIn_64 u_X7_isIn_64 8 = true := by decide +kernel
theorem ct_X7_isIn_64 {l : Launch} (hl : l.stackTraces = false) {cx cy : Int32} : en_Ctr l vwCl en_TY0 (en_Pc cx cy) en_om0 (en_Of cx cy) en_KT yX7_isIn (Cond.code yX7_isIn cX7_isIn 3 (some .boolean) :: en_cw) (en_rm 0 (0, 0)) 0 k_X7_isIn_64 :=
  en_main (X := x_X7_isIn_64) (M := m_X7_isIn_64) en_Pc_ok en_f32_ok en_f64_ok hl (by decide +kernel) ⟨en_FTX7_ok, en_PTX7_ok, en_an, en_LTX7_ok, en_LLX7_ok, en_TTX7_ok hl, ⟨cw256, cw147⟩, en_ACX7_ok⟩ de_X7_isIn ck_X7_isIn_64
def k_X7_isCell_16 : en_K := (2, ([.inl ((-2), (-1), 0, 0), .inl ((-2), 21, 0, 0)], [(5, 0, 0, 0, 0, 0)]), [([.inl ((-2), (-1), 0, 0), .inl ((-2), 21, 0, 0), .inl (0, 0, 0, 0)], [(5, 0, 0, 0, 0, 0)])], [], [], (0, 0), [])
def u_X7_isCell_16 : List en_U := []
def x_X7_isCell_16 : en_Cx := ((en_KT, en_TY0, en_om0), en_FTX7, en_PTX7, [(82, false, 0, 0, 0, k_X7_isIn_64)], en_LTX7, en_LLX7, en_TTX7, en_ACX7)
def m_X7_isCell_16 : en_Mx := (k_X7_isCell_16, 1, 2, (0, 2), tb_X7_isCell, [])
set_option maxRecDepth 100000 in
theorem ck_X7_isCell_16 : en_all x_X7_isCell_16 m_X7_isCell_16 u_X7_isCell_16 10 = true := by decide +kernel
theorem ct_X7_isCell_16 {l : Launch} (hl : l.stackTraces = false) {cx cy : Int32} : en_Ctr l vwCl en_TY0 (en_Pc cx cy) en_om0 (en_Of cx cy) en_KT yX7_isCell (Cond.code yX7_isCell cX7_isCell 2 (some .boolean) :: en_cw) (en_rm 1 (0, 0)) 0 k_X7_isCell_16 :=
  en_main (X := x_X7_isCell_16) (M := m_X7_isCell_16) en_Pc_ok en_f32_ok en_f64_ok hl (by decide +kernel) ⟨en_FTX7_ok, en_PTX7_ok, en_ac (⟨yX7_isIn, RX7, cX7_isIn, 3, (some .boolean), by decide, ct_X7_isIn_64 hl, fun h => Bool.noConfusion h, fun _ => gc_RX7_82s⟩) en_an, en_LTX7_ok, en_LLX7_ok, en_TTX7_ok hl, ⟨cw256, cw147⟩, en_ACX7_ok⟩ de_X7_isCell ck_X7_isCell_16
def k_X7_isIn_65 : en_K := (3, ([.inl (20, 21, 0, 0), .inl (0, 0, 0, 0), .inl (19, 19, 0, 0)], [(5, 0, 0, 0, 0, 0)]), [([.inl (20, 21, 0, 0), .inl (0, 0, 0, 0), .inl (19, 19, 0, 0), .inl (0, 0, 0, 0)], [(5, 0, 0, 0, 0, 0)])], [], [], (0, 0), [])
def u_X7_isIn_65 : List en_U := []
def x_X7_isIn_65 : en_Cx := ((en_KT, en_TY0, en_om0), en_FTX7, en_PTX7, [], en_LTX7, en_LLX7, en_TTX7, en_ACX7)
def m_X7_isIn_65 : en_Mx := (k_X7_isIn_65, 0, 3, (0, 2), tb_X7_isIn, [])
set_option maxRecDepth 100000 in
theorem ck_X7_isIn_65 : en_all x_X7_isIn_65 m_X7_isIn_65 u_X7_isIn_65 11 = true := by decide +kernel
theorem ct_X7_isIn_65 {l : Launch} (hl : l.stackTraces = false) {cx cy : Int32} : en_Ctr l vwCl en_TY0 (en_Pc cx cy) en_om0 (en_Of cx cy) en_KT yX7_isIn (Cond.code yX7_isIn cX7_isIn 3 (some .boolean) :: en_cw) (en_rm 0 (0, 0)) 0 k_X7_isIn_65 :=
  en_main (X := x_X7_isIn_65) (M := m_X7_isIn_65) en_Pc_ok en_f32_ok en_f64_ok hl (by decide +kernel) ⟨en_FTX7_ok, en_PTX7_ok, en_an, en_LTX7_ok, en_LLX7_ok, en_TTX7_ok hl, ⟨cw256, cw147⟩, en_ACX7_ok⟩ de_X7_isIn ck_X7_isIn_65
def k_X7_isCell_17 : en_K := (2, ([.inl (0, 29, 0, 0), .inl (20, 21, 0, 0)], [(5, 0, 0, 0, 0, 0)]), [([.inl (0, 29, 0, 0), .inl (20, 21, 0, 0), .inl (0, 0, 0, 0)], [(5, 0, 0, 0, 0, 0)])], [], [], (0, 0), [])
def u_X7_isCell_17 : List en_U := []
def x_X7_isCell_17 : en_Cx := ((en_KT, en_TY0, en_om0), en_FTX7, en_PTX7, [(82, false, 0, 0, 0, k_X7_isIn_65), (82, false, 0, 0, 0, k_X7_isIn_55)], en_LTX7, en_LLX7, en_TTX7, en_ACX7)
def m_X7_isCell_17 : en_Mx := (k_X7_isCell_17, 1, 2, (0, 2), tb_X7_isCell, [])
set_option maxRecDepth 100000 in
theorem ck_X7_isCell_17 : en_all x_X7_isCell_17 m_X7_isCell_17 u_X7_isCell_17 15 = true := by decide +kernel
theorem ct_X7_isCell_17 {l : Launch} (hl : l.stackTraces = false) {cx cy : Int32} : en_Ctr l vwCl en_TY0 (en_Pc cx cy) en_om0 (en_Of cx cy) en_KT yX7_isCell (Cond.code yX7_isCell cX7_isCell 2 (some .boolean) :: en_cw) (en_rm 1 (0, 0)) 0 k_X7_isCell_17 :=
  en_main (X := x_X7_isCell_17) (M := m_X7_isCell_17) en_Pc_ok en_f32_ok en_f64_ok hl (by decide +kernel) ⟨en_FTX7_ok, en_PTX7_ok, en_ac (⟨yX7_isIn, RX7, cX7_isIn, 3, (some .boolean), by decide, ct_X7_isIn_65 hl, fun h => Bool.noConfusion h, fun _ => gc_RX7_82s⟩) (en_ac (⟨yX7_isIn, RX7, cX7_isIn, 3, (some .boolean), by decide, ct_X7_isIn_55 hl, fun h => Bool.noConfusion h, fun _ => gc_RX7_82s⟩) en_an), en_LTX7_ok, en_LLX7_ok, en_TTX7_ok hl, ⟨cw256, cw147⟩, en_ACX7_ok⟩ de_X7_isCell ck_X7_isCell_17
def k_X7_isIn_66 : en_K := (3, ([.inl ((-2), (-1), 0, 0), .inl (0, 0, 0, 0), .inl (19, 19, 0, 0)], [(5, 0, 0, 0, 0, 0)]), [([.inl ((-2), (-1), 0, 0), .inl (0, 0, 0, 0), .inl (19, 19, 0, 0), .inl (0, 0, 0, 0)], [(5, 0, 0, 0, 0, 0)])], [], [], (0, 0), [])
def u_X7_isIn_66 : List en_U := []
def x_X7_isIn_66 : en_Cx := ((en_KT, en_TY0, en_om0), en_FTX7, en_PTX7, [], en_LTX7, en_LLX7, en_TTX7, en_ACX7)
def m_X7_isIn_66 : en_Mx := (k_X7_isIn_66, 0, 3, (0, 2), tb_X7_isIn, [])
set_option maxRecDepth 100000 in
theorem ck_X7_isIn_66 : en_all x_X7_isIn_66 m_X7_isIn_66 u_X7_isIn_66 8 = true := by decide +kernel
theorem ct_X7_isIn_66 {l : Launch} (hl : l.stackTraces = false) {cx cy : Int32} : en_Ctr l vwCl en_TY0 (en_Pc cx cy) en_om0 (en_Of cx cy) en_KT yX7_isIn (Cond.code yX7_isIn cX7_isIn 3 (some .boolean) :: en_cw) (en_rm 0 (0, 0)) 0 k_X7_isIn_66 :=
  en_main (X := x_X7_isIn_66) (M := m_X7_isIn_66) en_Pc_ok en_f32_ok en_f64_ok hl (by decide +kernel) ⟨en_FTX7_ok, en_PTX7_ok, en_an, en_LTX7_ok, en_LLX7_ok, en_TTX7_ok hl, ⟨cw256, cw147⟩, en_ACX7_ok⟩ de_X7_isIn ck_X7_isIn_66
def k_X7_isCell_18 : en_K := (2, ([.inl (0, 29, 0, 0), .inl ((-2), (-1), 0, 0)], [(5, 0, 0, 0, 0, 0)]), [([.inl (0, 29, 0, 0), .inl ((-2), (-1), 0, 0), .inl (0, 0, 0, 0)], [(5, 0, 0, 0, 0, 0)])], [], [], (0, 0), [])
def u_X7_isCell_18 : List en_U := []
def x_X7_isCell_18 : en_Cx := ((en_KT, en_TY0, en_om0), en_FTX7, en_PTX7, [(82, false, 0, 0, 0, k_X7_isIn_66), (82, false, 0, 0, 0, k_X7_isIn_55)], en_LTX7, en_LLX7, en_TTX7, en_ACX7)
def m_X7_isCell_18 : en_Mx := (k_X7_isCell_18, 1, 2, (0, 2), tb_X7_isCell, [])
set_option maxRecDepth 100000 in
theorem ck_X7_isCell_18 : en_all x_X7_isCell_18 m_X7_isCell_18 u_X7_isCell_18 15 = true := by decide +kernel
theorem ct_X7_isCell_18 {l : Launch} (hl : l.stackTraces = false) {cx cy : Int32} : en_Ctr l vwCl en_TY0 (en_Pc cx cy) en_om0 (en_Of cx cy) en_KT yX7_isCell (Cond.code yX7_isCell cX7_isCell 2 (some .boolean) :: en_cw) (en_rm 1 (0, 0)) 0 k_X7_isCell_18 :=
  en_main (X := x_X7_isCell_18) (M := m_X7_isCell_18) en_Pc_ok en_f32_ok en_f64_ok hl (by decide +kernel) ⟨en_FTX7_ok, en_PTX7_ok, en_ac (⟨yX7_isIn, RX7, cX7_isIn, 3, (some .boolean), by decide, ct_X7_isIn_66 hl, fun h => Bool.noConfusion h, fun _ => gc_RX7_82s⟩) (en_ac (⟨yX7_isIn, RX7, cX7_isIn, 3, (some .boolean), by decide, ct_X7_isIn_55 hl, fun h => Bool.noConfusion h, fun _ => gc_RX7_82s⟩) en_an), en_LTX7_ok, en_LLX7_ok, en_TTX7_ok hl, ⟨cw256, cw147⟩, en_ACX7_ok⟩ de_X7_isCell ck_X7_isCell_18
def k_X7_comes_1 : en_K := (3, ([.inr (.inl 20), .inl ((-2), 31, 0, 0), .inl ((-2), 21, 0, 0), .inl (0, 8, 0, 0)], [(0, 0, 25, 3, 0, 0), (5, 0, 0, 0, 0, 0)]), [([.inr (.inl 20), .inl (0, 29, 0, 0), .inl (0, 19, 0, 0), .inl (104, 104, 0, 0)], [(5, 0, 0, 0, 0, 0)]), ([.inr (.inl 20), .inl (0, 29, 0, 0), .inl (0, 19, 0, 0), .inl (108, 108, 0, 0)], [(2, 1, 2, 0, 0, 0), (5, 0, 0, 0, 0, 0)]), ([.inr (.inl 20), .inl (0, 29, 0, 0), .inl (0, 19, 0, 0), .inl (115, 115, 0, 0)], [(2, 1, 2, 0, 0, 0), (5, 0, 0, 0, 0, 0)]), ([.inr (.inl 20), .inl (30, 31, 0, 0), .inl ((-2), 21, 0, 0), .inl (115, 115, 0, 0)], [(5, 0, 0, 0, 0, 0)]), ([.inr (.inl 20), .inl ((-2), (-1), 0, 0), .inl ((-2), 21, 0, 0), .inl (115, 115, 0, 0)], [(5, 0, 0, 0, 0, 0)]), ([.inr (.inl 20), .inl (0, 29, 0, 0), .inl (20, 21, 0, 0), .inl (115, 115, 0, 0)], [(5, 0, 0, 0, 0, 0)]), ([.inr (.inl 20), .inl (0, 29, 0, 0), .inl ((-2), (-1), 0, 0), .inl (115, 115, 0, 0)], [(5, 0, 0, 0, 0, 0)])], [], [20, 21, 22, 23, 24], (0, 0), [])
def u_X7_comes_1 : List en_U := []
def x_X7_comes_1 : en_Cx := ((en_KT, en_TY0, en_om0), en_FTX7, en_PTX7, [(106, false, 0, 0, 1, k_X7_isCell_15), (106, false, 0, 0, 1, k_X7_isCell_16), (106, false, 0, 0, 1, k_X7_isCell_17), (106, false, 0, 0, 1, k_X7_isCell_18), (106, false, 0, 0, 1, k_X7_isCell_9), (106, false, 0, 0, 1, k_X7_isCell_14), (175, true, 13, 0, 0, k_X7_kind_0), (187, true, 13, 0, 1, k_X7_isCup_h)], en_LTX7, en_LLX7, en_TTX7, en_ACX7)
def m_X7_comes_1 : en_Mx := (k_X7_comes_1, 2, 3, (0, 1), tb_X7_comes, [])
set_option maxRecDepth 100000 in
theorem ck_X7_comes_1 : en_all x_X7_comes_1 m_X7_comes_1 u_X7_comes_1 31 = true := by decide +kernel
theorem ct_X7_comes_1 {l : Launch} (hl : l.stackTraces = false) {cx cy : Int32} : en_Ctr l vwCl en_TY0 (en_Pc cx cy) en_om0 (en_Of cx cy) en_KT yX7_comes (Cond.code yX7_comes cX7_comes 3 (some .char) :: en_cw) (en_rm 2 (0, 0)) 0 k_X7_comes_1 :=
  en_main (X := x_X7_comes_1) (M := m_X7_comes_1) en_Pc_ok en_f32_ok en_f64_ok hl (by decide +kernel) ⟨en_FTX7_ok, en_PTX7_ok, en_ac (⟨yX7_isCell, RX7, cX7_isCell, 2, (some .boolean), by decide, ct_X7_isCell_15 hl, fun h => Bool.noConfusion h, fun _ => gc_RX7_106s⟩) (en_ac (⟨yX7_isCell, RX7, cX7_isCell, 2, (some .boolean), by decide, ct_X7_isCell_16 hl, fun h => Bool.noConfusion h, fun _ => gc_RX7_106s⟩) (en_ac (⟨yX7_isCell, RX7, cX7_isCell, 2, (some .boolean), by decide, ct_X7_isCell_17 hl, fun h => Bool.noConfusion h, fun _ => gc_RX7_106s⟩) (en_ac (⟨yX7_isCell, RX7, cX7_isCell, 2, (some .boolean), by decide, ct_X7_isCell_18 hl, fun h => Bool.noConfusion h, fun _ => gc_RX7_106s⟩) (en_ac (⟨yX7_isCell, RX7, cX7_isCell, 2, (some .boolean), by decide, ct_X7_isCell_9 hl, fun h => Bool.noConfusion h, fun _ => gc_RX7_106s⟩) (en_ac (⟨yX7_isCell, RX7, cX7_isCell, 2, (some .boolean), by decide, ct_X7_isCell_14 hl, fun h => Bool.noConfusion h, fun _ => gc_RX7_106s⟩) (en_ac (⟨yX7_kind, RX7, cX7_kind, 3, (some .char), by decide, ct_X7_kind_0 hl, fun _ => ⟨gc_RX7_175v, by decide, _, rfl, rfl⟩, fun h => Bool.noConfusion h⟩) (en_ac (⟨yX7_isCup, RX7, cX7_isCup, 3, (some .boolean), by decide, ct_X7_isCup_h hl, fun _ => ⟨gc_RX7_187v, by decide, _, rfl, rfl⟩, fun h => Bool.noConfusion h⟩) en_an))))))), en_LTX7_ok, en_LLX7_ok, en_TTX7_ok hl, ⟨cw256, cw147⟩, en_ACX7_ok⟩ de_X7_comes ck_X7_comes_1
def k_X7_drawn__2 : en_K := (2, ([.inr (.inl 20), .inl (0, 0, 0, 0)], [(5, 0, 0, 0, 0, 0)]), [([.inr (.inl 20), .inl (0, 0, 0, 0), .inl (0, 0, 0, 0)], [(5, 0, 0, 0, 0, 0)])], [], [], (0, 0), [])
def u_X7_drawn__2 : List en_U := []
def x_X7_drawn__2 : en_Cx := ((en_KT, en_TY0, en_om0), en_FTX7, en_PTX7, [], en_LTX7, en_LLX7, en_TTX7, en_ACX7)
def m_X7_drawn__2 : en_Mx := (k_X7_drawn__2, 0, 2, (0, 0), tb_X7_drawn_, [])
set_option maxRecDepth 100000 in
theorem ck_X7_drawn__2 : en_all x_X7_drawn__2 m_X7_drawn__2 u_X7_drawn__2 8 = true := by decide +kernel
theorem ct_X7_drawn__2 {l : Launch} (hl : l.stackTraces = false) {cx cy : Int32} : en_Ctr l vwCl en_TY0 (en_Pc cx cy) en_om0 (en_Of cx cy) en_KT yX7_drawn_ (Cond.code yX7_drawn_ cX7_drawn_ 2 (some .int) :: en_cw) (en_rm 0 (0, 0)) 0 k_X7_drawn__2 :=
  en_main (X := x_X7_drawn__2) (M := m_X7_drawn__2) en_Pc_ok en_f32_ok en_f64_ok hl (by decide +kernel) ⟨en_FTX7_ok, en_PTX7_ok, en_an, en_LTX7_ok, en_LLX7_ok, en_TTX7_ok hl, ⟨cw256, cw147⟩, en_ACX7_ok⟩ de_X7_drawn_ ck_X7_drawn__2
def k_X7_comes_2 : en_K := (3, ([.inr (.inl 20), .inl (0, 29, 0, 0), .inl (0, 19, 0, 0), .inl (0, 8, 0, 0)], [(0, 0, 25, 3, 0, 0), (5, 0, 0, 0, 0, 0)]), [([.inr (.inl 20), .inl (0, 29, 0, 0), .inl (0, 19, 0, 0), .inl (104, 104, 0, 0)], [(5, 0, 0, 0, 0, 0)]), ([.inr (.inl 20), .inl (0, 29, 0, 0), .inl (0, 19, 0, 0), .inl (108, 108, 0, 0)], [(2, 1, 2, 0, 0, 0), (5, 0, 0, 0, 0, 0)]), ([.inr (.inl 20), .inl (0, 29, 0, 0), .inl (0, 19, 0, 0), .inl (115, 115, 0, 0)], [(2, 1, 2, 0, 0, 0), (5, 0, 0, 0, 0, 0)])], [], [20, 21, 22, 23, 24], (0, 0), [])
def u_X7_comes_2 : List en_U := []
def x_X7_comes_2 : en_Cx := ((en_KT, en_TY0, en_om0), en_FTX7, en_PTX7, [(106, false, 0, 0, 1, k_X7_isCell_9), (175, true, 13, 0, 0, k_X7_kind_0), (187, true, 13, 0, 1, k_X7_isCup_h)], en_LTX7, en_LLX7, en_TTX7, en_ACX7)
def m_X7_comes_2 : en_Mx := (k_X7_comes_2, 2, 3, (0, 1), tb_X7_comes, [])
set_option maxRecDepth 100000 in
theorem ck_X7_comes_2 : en_all x_X7_comes_2 m_X7_comes_2 u_X7_comes_2 31 = true := by decide +kernel
theorem ct_X7_comes_2 {l : Launch} (hl : l.stackTraces = false) {cx cy : Int32} : en_Ctr l vwCl en_TY0 (en_Pc cx cy) en_om0 (en_Of cx cy) en_KT yX7_comes (Cond.code yX7_comes cX7_comes 3 (some .char) :: en_cw) (en_rm 2 (0, 0)) 0 k_X7_comes_2 :=
  en_main (X := x_X7_comes_2) (M := m_X7_comes_2) en_Pc_ok en_f32_ok en_f64_ok hl (by decide +kernel) ⟨en_FTX7_ok, en_PTX7_ok, en_ac (⟨yX7_isCell, RX7, cX7_isCell, 2, (some .boolean), by decide, ct_X7_isCell_9 hl, fun h => Bool.noConfusion h, fun _ => gc_RX7_106s⟩) (en_ac (⟨yX7_kind, RX7, cX7_kind, 3, (some .char), by decide, ct_X7_kind_0 hl, fun _ => ⟨gc_RX7_175v, by decide, _, rfl, rfl⟩, fun h => Bool.noConfusion h⟩) (en_ac (⟨yX7_isCup, RX7, cX7_isCup, 3, (some .boolean), by decide, ct_X7_isCup_h hl, fun _ => ⟨gc_RX7_187v, by decide, _, rfl, rfl⟩, fun h => Bool.noConfusion h⟩) en_an)), en_LTX7_ok, en_LLX7_ok, en_TTX7_ok hl, ⟨cw256, cw147⟩, en_ACX7_ok⟩ de_X7_comes ck_X7_comes_2
