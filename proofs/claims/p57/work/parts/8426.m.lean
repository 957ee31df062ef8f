def k_X7_isIn_49 : en_K := (3, ([.inl ((-1), 20, 0, 0), .inl (0, 0, 0, 0), .inl (19, 19, 0, 0)], [(5, 0, 0, 0, 0, 0)]), [([.inl (20, 20, 0, 0), .inl (0, 0, 0, 0), .inl (19, 19, 0, 0), .inl (0, 0, 0, 0)], [(5, 0, 0, 0, 0, 0)]), ([.inl ((-1), (-1), 0, 0), .inl (0, 0, 0, 0), .inl (19, 19, 0, 0), .inl (0, 0, 0, 0)], [(5, 0, 0, 0, 0, 0)]), ([.inl (0, 19, 0, 0), .inl (0, 0, 0, 0), .inl (19, 19, 0, 0), .inl (1, 1, 0, 0)], [(5, 0, 0, 0, 0, 0)])], [], [], (0, 0), [])
def u_X7_isIn_49 : List en_U := []
def x_X7_isIn_49 : en_Cx := ((en_KT, en_TY0, en_om0), en_FTX7, en_PTX7, [], en_LTX7, en_LLX7, en_TTX7, en_ACX7)
def m_X7_isIn_49 : en_Mx := (k_X7_isIn_49, 0, 3, (0, 2), tb_X7_isIn, [])
set_option maxRecDepth 100000 in
theorem ck_X7_isIn_49 : en_all x_X7_isIn_49 m_X7_isIn_49 u_X7_isIn_49 12 = true := by decide +kernel
theorem ct_X7_isIn_49 {l : Launch} (hl : l.stackTraces = false) {cx cy : Int32} : en_Ctr l vwCl en_TY0 (en_Pc cx cy) en_om0 (en_Of cx cy) en_KT yX7_isIn (Cond.code yX7_isIn cX7_isIn 3 (some .boolean) :: en_cw) (en_rm 0 (0, 0)) 0 k_X7_isIn_49 :=
  en_main (X := x_X7_isIn_49) (M := m_X7_isIn_49) en_Pc_ok en_f32_ok en_f64_ok hl (by decide +kernel) ⟨en_FTX7_ok, en_PTX7_ok, en_an, en_LTX7_ok, en_LLX7_ok, en_TTX7_ok hl, ⟨cw256, cw147⟩, en_ACX7_ok⟩ de_X7_isIn ck_X7_isIn_49
def k_X7_isCell_8 : en_K := (2, ([.inl ((-1), 30, 0, 0), .inl ((-1), 20, 0, 0)], [(5, 0, 0, 0, 0, 0)]), [([.inl (0, 29, 0, 0), .inl ((-1), (-1), 0, 0), .inl (0, 0, 0, 0)], [(5, 0, 0, 0, 0, 0)]), ([.inl (0, 29, 0, 0), .inl (20, 20, 0, 0), .inl (0, 0, 0, 0)], [(5, 0, 0, 0, 0, 0)]), ([.inl ((-1), (-1), 0, 0), .inl ((-1), 20, 0, 0), .inl (0, 0, 0, 0)], [(5, 0, 0, 0, 0, 0)]), ([.inl (30, 30, 0, 0), .inl ((-1), 20, 0, 0), .inl (0, 0, 0, 0)], [(5, 0, 0, 0, 0, 0)]), ([.inl (0, 29, 0, 0), .inl (0, 19, 0, 0), .inl (1, 1, 0, 0)], [(5, 0, 0, 0, 0, 0)])], [], [], (0, 0), [])
def u_X7_isCell_8 : List en_U := []
def x_X7_isCell_8 : en_Cx := ((en_KT, en_TY0, en_om0), en_FTX7, en_PTX7, [(82, false, 0, 0, 0, k_X7_isIn_49), (82, false, 0, 0, 0, k_X7_isIn_48)], en_LTX7, en_LLX7, en_TTX7, en_ACX7)
def m_X7_isCell_8 : en_Mx := (k_X7_isCell_8, 1, 2, (0, 2), tb_X7_isCell, [])
set_option maxRecDepth 100000 in
theorem ck_X7_isCell_8 : en_all x_X7_isCell_8 m_X7_isCell_8 u_X7_isCell_8 16 = true := by decide +kernel
theorem ct_X7_isCell_8 {l : Launch} (hl : l.stackTraces = false) {cx cy : Int32} : en_Ctr l vwCl en_TY0 (en_Pc cx cy) en_om0 (en_Of cx cy) en_KT yX7_isCell (Cond.code yX7_isCell cX7_isCell 2 (some .boolean) :: en_cw) (en_rm 1 (0, 0)) 0 k_X7_isCell_8 :=
  en_main (X := x_X7_isCell_8) (M := m_X7_isCell_8) en_Pc_ok en_f32_ok en_f64_ok hl (by decide +kernel) ⟨en_FTX7_ok, en_PTX7_ok, en_ac (⟨yX7_isIn, RX7, cX7_isIn, 3, (some .boolean), by decide, ct_X7_isIn_49 hl, fun h => Bool.noConfusion h, fun _ => gc_RX7_82s⟩) (en_ac (⟨yX7_isIn, RX7, cX7_isIn, 3, (some .boolean), by decide, ct_X7_isIn_48 hl, fun h => Bool.noConfusion h, fun _ => gc_RX7_82s⟩) en_an), en_LTX7_ok, en_LLX7_ok, en_TTX7_ok hl, ⟨cw256, cw147⟩, en_ACX7_ok⟩ de_X7_isCell ck_X7_isCell_8
def k_X7_isIn_50 : en_K := (3, ([.inl (0, 29, 0, 0), .inl (0, 0, 0, 0), .inl (29, 29, 0, 0)], [(5, 0, 0, 0, 0, 0)]), [([.inl (0, 29, 0, 0), .inl (0, 0, 0, 0), .inl (29, 29, 0, 0), .inl (1, 1, 0, 0)], [(5, 0, 0, 0, 0, 0)])], [], [], (0, 0), [])
def u_X7_isIn_50 : List en_U := []
def x_X7_isIn_50 : en_Cx := ((en_KT, en_TY0, en_om0), en_FTX7, en_PTX7, [], en_LTX7, en_LLX7, en_TTX7, en_ACX7)
def m_X7_isIn_50 : en_Mx := (k_X7_isIn_50, 0, 3, (0, 2), tb_X7_isIn, [])
set_option maxRecDepth 100000 in
theorem ck_X7_isIn_50 : en_all x_X7_isIn_50 m_X7_isIn_50 u_X7_isIn_50 12 = true := by decide +kernel
theorem ct_X7_isIn_50 {l : Launch} (hl : l.stackTraces = false) {cx cy : Int32} : en_Ctr l vwCl en_TY0 (en_Pc cx cy) en_om0 (en_Of cx cy) en_KT yX7_isIn (Cond.code yX7_isIn cX7_isIn 3 (some .boolean) :: en_cw) (en_rm 0 (0, 0)) 0 k_X7_isIn_50 :=
  en_main (X := x_X7_isIn_50) (M := m_X7_isIn_50) en_Pc_ok en_f32_ok en_f64_ok hl (by decide +kernel) ⟨en_FTX7_ok, en_PTX7_ok, en_an, en_LTX7_ok, en_LLX7_ok, en_TTX7_ok hl, ⟨cw256, cw147⟩, en_ACX7_ok⟩ de_X7_isIn ck_X7_isIn_50
def k_X7_isIn_51 : en_K := (3, ([.inl (0, 19, 0, 0), .inl (0, 0, 0, 0), .inl (19, 19, 0, 0)], [(5, 0, 0, 0, 0, 0)]), [([.inl (0, 19, 0, 0), .inl (0, 0, 0, 0), .inl (19, 19, 0, 0), .inl (1, 1, 0, 0)], [(5, 0, 0, 0, 0, 0)])], [], [], (0, 0), [])
def u_X7_isIn_51 : List en_U := []
def x_X7_isIn_51 : en_Cx := ((en_KT, en_TY0, en_om0), en_FTX7, en_PTX7, [], en_LTX7, en_LLX7, en_TTX7, en_ACX7)
def m_X7_isIn_51 : en_Mx := (k_X7_isIn_51, 0, 3, (0, 2), tb_X7_isIn, [])
set_option maxRecDepth 100000 in
theorem ck_X7_isIn_51 : en_all x_X7_isIn_51 m_X7_isIn_51 u_X7_isIn_51 12 = true := by decide +kernel
theorem ct_X7_isIn_51 {l : Launch} (hl : l.stackTraces = false) {cx cy : Int32} : en_Ctr l vwCl en_TY0 (en_Pc cx cy) en_om0 (en_Of cx cy) en_KT yX7_isIn (Cond.code yX7_isIn cX7_isIn 3 (some .boolean) :: en_cw) (en_rm 0 (0, 0)) 0 k_X7_isIn_51 :=
  en_main (X := x_X7_isIn_51) (M := m_X7_isIn_51) en_Pc_ok en_f32_ok en_f64_ok hl (by decide +kernel) ⟨en_FTX7_ok, en_PTX7_ok, en_an, en_LTX7_ok, en_LLX7_ok, en_TTX7_ok hl, ⟨cw256, cw147⟩, en_ACX7_ok⟩ de_X7_isIn ck_X7_isIn_51
def k_X7_isCell_9 : en_K := (2, ([.inl (0, 29, 0, 0), .inl (0, 19, 0, 0)], [(5, 0, 0, 0, 0, 0)]), [([.inl (0, 29, 0, 0), .inl (0, 19, 0, 0), .inl (1, 1, 0, 0)], [(5, 0, 0, 0, 0, 0)])], [], [], (0, 0), [])
def u_X7_isCell_9 : List en_U := []
def x_X7_isCell_9 : en_Cx := ((en_KT, en_TY0, en_om0), en_FTX7, en_PTX7, [(82, false, 0, 0, 0, k_X7_isIn_51), (82, false, 0, 0, 0, k_X7_isIn_50)], en_LTX7, en_LLX7, en_TTX7, en_ACX7)
def m_X7_isCell_9 : en_Mx := (k_X7_isCell_9, 1, 2, (0, 2), tb_X7_isCell, [])
set_option maxRecDepth 100000 in
theorem ck_X7_isCell_9 : en_all x_X7_isCell_9 m_X7_isCell_9 u_X7_isCell_9 16 = true := by decide +kernel
theorem ct_X7_isCell_9 {l : Launch} (hl : l.stackTraces = false) {cx cy : Int32} : en_Ctr l vwCl en_TY0 (en_Pc cx cy) en_om0 (en_Of cx cy) en_KT yX7_isCell (Cond.code yX7_isCell cX7_isCell 2 (some .boolean) :: en_cw) (en_rm 1 (0, 0)) 0 k_X7_isCell_9 :=
  en_main (X := x_X7_isCell_9) (M := m_X7_isCell_9) en_Pc_ok en_f32_ok en_f64_ok hl (by decide +kernel) ⟨en_FTX7_ok, en_PTX7_ok, en_ac (⟨yX7_isIn, RX7, cX7_isIn, 3, (some .boolean), by decide, ct_X7_isIn_51 hl, fun h => Bool.noConfusion h, fun _ => gc_RX7_82s⟩) (en_ac (⟨yX7_isIn, RX7, cX7_isIn, 3, (some .boolean), by decide, ct_X7_isIn_50 hl, fun h => Bool.noConfusion h, fun _ => gc_RX7_82s⟩) en_an), en_LTX7_ok, en_LLX7_ok, en_TTX7_ok hl, ⟨cw256, cw147⟩, en_ACX7_ok⟩ de_X7_isCell ck_X7_isCell_9
def k_X7_isIn_52 : en_K := (3, ([.inl (30, 30, 0, 0), .inl (0, 0, 0, 0), .inl (29, 29, 0, 0)], [(5, 0, 0, 0, 0, 0)]), [([.inl (30, 30, 0, 0), .inl (0, 0, 0, 0), .inl (29, 29, 0, 0), .inl (0, 0, 0, 0)], [(5, 0, 0, 0, 0, 0)])], [], [], (0, 0), [])
def u_X7_isIn_52 : List en_U := []
def x_X7_isIn_52 : en_Cx := ((en_KT, en_TY0, en_om0), en_FTX7, en_PTX7, [], en_LTX7, en_LLX7, en_TTX7, en_ACX7)
def m_X7_isIn_52 : en_Mx := (k_X7_isIn_52, 0, 3, (0, 2), tb_X7_isIn, [])
set_option maxRecDepth 100000 in
theorem ck_X7_isIn_52 : en_all x_X7_isIn_52 m_X7_isIn_52 u_X7_isIn_52 11 = true := by decide +kernel
theorem ct_X7_isIn_52 {l : Launch} (hl : l.stackTraces = false) {cx cy : Int32} : en_Ctr l vwCl en_TY0 (en_Pc cx cy) en_om0 (en_Of cx cy) en_KT yX7_isIn (Cond.code yX7_isIn cX7_isIn 3 (some .boolean) :: en_cw) (en_rm 0 (0, 0)) 0 k_X7_isIn_52 :=
  en_main (X := x_X7_isIn_52) (M := m_X7_isIn_52) en_Pc_ok en_f32_ok en_f64_ok hl (by decide +kernel) ⟨en_FTX7_ok, en_PTX7_ok, en_an, en_LTX7_ok, en_LLX7_ok, en_TTX7_ok hl, ⟨cw256, cw147⟩, en_ACX7_ok⟩ de_X7_isIn ck_X7_isIn_52
def k_X7_isCell_10 : en_K := (2, ([.inl (30, 30, 0, 0), .inl ((-1), 20, 0, 0)], [(5, 0, 0, 0, 0, 0)]), [([.inl (30, 30, 0, 0), .inl ((-1), 20, 0, 0), .inl (0, 0, 0, 0)], [(5, 0, 0, 0, 0, 0)])], [], [], (0, 0), [])
def u_X7_isCell_10 : List en_U := []
def x_X7_isCell_10 : en_Cx := ((en_KT, en_TY0, en_om0), en_FTX7, en_PTX7, [(82, false, 0, 0, 0, k_X7_isIn_52)], en_LTX7, en_LLX7, en_TTX7, en_ACX7)
def m_X7_isCell_10 : en_Mx := (k_X7_isCell_10, 1, 2, (0, 2), tb_X7_isCell, [])
set_option maxRecDepth 100000 in
theorem ck_X7_isCell_10 : en_all x_X7_isCell_10 m_X7_isCell_10 u_X7_isCell_10 10 = true := by decide +kernel
theorem ct_X7_isCell_10 {l : Launch} (hl : l.stackTraces = false) {cx cy : Int32} : en_Ctr l vwCl en_TY0 (en_Pc cx cy) en_om0 (en_Of cx cy) en_KT yX7_isCell (Cond.code yX7_isCell cX7_isCell 2 (some .boolean) :: en_cw) (en_rm 1 (0, 0)) 0 k_X7_isCell_10 :=
  en_main (X := x_X7_isCell_10) (M := m_X7_isCell_10) en_Pc_ok en_f32_ok en_f64_ok hl (by decide +kernel) ⟨en_FTX7_ok, en_PTX7_ok, en_ac (⟨yX7_isIn, RX7, cX7_isIn, 3, (some .boolean), by decide, ct_X7_isIn_52 hl, fun h => Bool.noConfusion h, fun _ => gc_RX7_82s⟩) en_an, en_LTX7_ok, en_LLX7_ok, en_TTX7_ok hl, ⟨cw256, cw147⟩, en_ACX7_ok⟩ de_X7_isCell ck_X7_isCell_10
def k_X7_isIn_53 : en_K := (3, ([.inl ((-1), (-1), 0, 0), .inl (0, 0, 0, 0), .inl (29, 29, 0, 0)], [(5, 0, 0, 0, 0, 0)]), [([.inl ((-1), (-1), 0, 0), .inl (0, 0, 0, 0), .inl (29, 29, 0, 0), .inl (0, 0, 0, 0)], [(5, 0, 0, 0, 0, 0)])], [], [], (0, 0), [])
def u_X7_isIn_53 : List en_U := []
def x_X7_isIn_53 : en_Cx := ((en_KT, en_TY0, en_om0), en_FTX7, en_PTX7, [], en_LTX7, en_LLX7, en_TTX7, en_ACX7)
def m_X7_isIn_53 : en_Mx := (k_X7_isIn_53, 0, 3, (0, 2), tb_X7_isIn, [])
set_option maxRecDepth 100000 in
theorem ck_X7_isIn_53 : en_all x_X7_isIn_53 m_X7_isIn_53 u_X7_isIn_53 8 = true := by decide +kernel
theorem ct_X7_isIn_53 {l : Launch} (hl : l.stackTraces = false) {cx cy : Int32} : en_Ctr l vwCl en_TY0 (en_Pc cx cy) en_om0 (en_Of cx cy) en_KT yX7_isIn (Cond.code yX7_isIn cX7_isIn 3 (some .boolean) :: en_cw) (en_rm 0 (0, 0)) 0 k_X7_isIn_53 :=
  en_main (X := x_X7_isIn_53) (M := m_X7_isIn_53) en_Pc_ok en_f32_ok en_f64_ok hl (by decide +kernel) ⟨en_FTX7_ok, en_PTX7_ok, en_an, en_LTX7_ok, en_LLX7_ok, en_TTX7_ok hl, ⟨cw256, cw147⟩, en_ACX7_ok⟩ de_X7_isIn ck_X7_isIn_53
def k_X7_isCell_11 : en_K := (2, ([.inl ((-1), (-1), 0, 0), .inl ((-1), 20, 0, 0)], [(5, 0, 0, 0, 0, 0)]), [([.inl ((-1), (-1), 0, 0), .inl ((-1), 20, 0, 0), .inl (0, 0, 0, 0)], [(5, 0, 0, 0, 0, 0)])], [], [], (0, 0), [])
def u_X7_isCell_11 : List en_U := []
def x_X7_isCell_11 : en_Cx := ((en_KT, en_TY0, en_om0), en_FTX7, en_PTX7, [(82, false, 0, 0, 0, k_X7_isIn_53)], en_LTX7, en_LLX7, en_TTX7, en_ACX7)
def m_X7_isCell_11 : en_Mx := (k_X7_isCell_11, 1, 2, (0, 2), tb_X7_isCell, [])
set_option maxRecDepth 100000 in
theorem ck_X7_isCell_11 : en_all x_X7_isCell_11 m_X7_isCell_11 u_X7_isCell_11 10 = true := by decide +kernel
theorem ct_X7_isCell_11 {l : Launch} (hl : l.stackTraces = false) {cx cy : Int32} : en_Ctr l vwCl en_TY0 (en_Pc cx cy) en_om0 (en_Of cx cy) en_KT yX7_isCell (Cond.code yX7_isCell cX7_isCell 2 (some .boolean) :: en_cw) (en_rm 1 (0, 0)) 0 k_X7_isCell_11 :=
  en_main (X := x_X7_isCell_11) (M := m_X7_isCell_11) en_Pc_ok en_f32_ok en_f64_ok hl (by decide +kernel) ⟨en_FTX7_ok, en_PTX7_ok, en_ac (⟨yX7_isIn, RX7, cX7_isIn, 3, (some .boolean), by decide, ct_X7_isIn_53 hl, fun h => Bool.noConfusion h, fun _ => gc_RX7_82s⟩) en_an, en_LTX7_ok, en_LLX7_ok, en_TTX7_ok hl, ⟨cw256, cw147⟩, en_ACX7_ok⟩ de_X7_isCell ck_X7_isCell_11
def k_X7_isIn_54 : en_K := (3, ([.inl (20, 20, 0, 0), .inl (0, 0, 0, 0), .inl (19, 19, 0, 0)], [(5, 0, 0, 0, 0, 0)]), [([.inl (20, 20, 0, 0), .inl (0, 0, 0, 0), .inl (19, 19, 0, 0), .inl (0, 0, 0, 0)], [(5, 0, 0, 0, 0, 0)])], [], [], (0, 0), [])
def u_X7_isIn_54 : List en_U := []
def x_X7_isIn_54 : en_Cx := ((en_KT, en_TY0, en_om0), en_FTX7, en_PTX7, [], en_LTX7, en_LLX7, en_TTX7, en_ACX7)
def m_X7_isIn_54 : en_Mx := (k_X7_isIn_54, 0, 3, (0, 2), tb_X7_isIn, [])
set_option maxRecDepth 100000 in
theorem ck_X7_isIn_54 : en_all x_X7_isIn_54 m_X7_isIn_54 u_X7_isIn_54 11 = true := by decide +kernel
theorem ct_X7_isIn_54 {l : Launch} (hl : l.stackTraces = false) {cx cy : Int32} : en_Ctr l vwCl en_TY0 (en_Pc cx cy) en_om0 (en_Of cx cy) en_KT yX7_isIn (Cond.code yX7_isIn cX7_isIn 3 (some .boolean) :: en_cw) (en_rm 0 (0, 0)) 0 k_X7_isIn_54 :=
  en_main (X := x_X7_isIn_54) (M := m_X7_isIn_54) en_Pc_ok en_f32_ok en_f64_ok hl (by decide +kernel) ⟨en_FTX7_ok, en_PTX7_ok, en_an, en_LTX7_ok, en_LLX7_ok, en_TTX7_ok hl, ⟨cw256, cw147⟩, en_ACX7_ok⟩ de_X7_isIn ck_X7_isIn_54
def k_X7_isCell_12 : en_K := (2, ([.inl (0, 29, 0, 0), .inl (20, 20, 0, 0)], [(5, 0, 0, 0, 0, 0)]), [([.inl (0, 29, 0, 0), .inl (20, 20, 0, 0), .inl (0, 0, 0, 0)], [(5, 0, 0, 0, 0, 0)])], [], [], (0, 0), [])
def u_X7_isCell_12 : List en_U := []
def x_X7_isCell_12 : en_Cx := ((en_KT, en_TY0, en_om0), en_FTX7, en_PTX7, [(82, false, 0, 0, 0, k_X7_isIn_54), (82, false, 0, 0, 0, k_X7_isIn_50)], en_LTX7, en_LLX7, en_TTX7, en_ACX7)
def m_X7_isCell_12 : en_Mx := (k_X7_isCell_12, 1, 2, (0, 2), tb_X7_isCell, [])
set_option maxRecDepth 100000 in
theorem ck_X7_isCell_12 : en_all x_X7_isCell_12 m_X7_isCell_12 u_X7_isCell_12 15 = true := by decide +kernel
theorem ct_X7_isCell_12 {l : Launch} (hl : l.stackTraces = false) {cx cy : Int32} : en_Ctr l vwCl en_TY0 (en_Pc cx cy) en_om0 (en_Of cx cy) en_KT yX7_isCell (Cond.code yX7_isCell cX7_isCell 2 (some .boolean) :: en_cw) (en_rm 1 (0, 0)) 0 k_X7_isCell_12 :=
  en_main (X := x_X7_isCell_12) (M := m_X7_isCell_12) en_Pc_ok en_f32_ok en_f64_ok hl (by decide +kernel) ⟨en_FTX7_ok, en_PTX7_ok, en_ac (⟨yX7_isIn, RX7, cX7_isIn, 3, (some .boolean), by decide, ct_X7_isIn_54 hl, fun h => Bool.noConfusion h, fun _ => gc_RX7_82s⟩) (en_ac (⟨yX7_isIn, RX7, cX7_isIn, 3, (some .boolean), by decide, ct_X7_isIn_50 hl, fun h => Bool.noConfusion h, fun _ => gc_RX7_82s⟩) en_an), en_LTX7_ok, en_LLX7_ok, en_TTX7_ok hl, ⟨cw256, cw147⟩, en_ACX7_ok⟩ de_X7_isCell ck_X7_isCell_12
def k_X7_isIn_55 : en_K := (3, ([.inl ((-1), (-1), 0, 0), .inl (0, 0, 0, 0), .inl (19, 19, 0, 0)], [(5, 0, 0, 0, 0, 0)]), [([.inl ((-1), (-1), 0, 0), .inl (0, 0, 0, 0), .inl (19, 19, 0, 0), .inl (0, 0, 0, 0)], [(5, 0, 0, 0, 0, 0)])], [], [], (0, 0), [])
def u_X7_isIn_55 : List en_U := []
def x_X7_isIn_55 : en_Cx := ((en_KT, en_TY0, en_om0), en_FTX7, en_PTX7, [], en_LTX7, en_LLX7, en_TTX7, en_ACX7)
def m_X7_isIn_55 : en_Mx := (k_X7_isIn_55, 0, 3, (0, 2), tb_X7_isIn, [])
set_option maxRecDepth 100000 in
theorem ck_X7_isIn_55 : en_all x_X7_isIn_55 m_X7_isIn_55 u_X7_isIn_55 8 = true := by decide +kernel
theorem ct_X7_isIn_55 {l : Launch} (hl : l.stackTraces = false) {cx cy : Int32} : en_Ctr l vwCl en_TY0 (en_Pc cx cy) en_om0 (en_Of cx cy) en_KT yX7_isIn (Cond.code yX7_isIn cX7_isIn 3 (some .boolean) :: en_cw) (en_rm 0 (0, 0)) 0 k_X7_isIn_55 :=
  en_main (X := x_X7_isIn_55) (M := m_X7_isIn_55) en_Pc_ok en_f32_ok en_f64_ok hl (by decide +kernel) ⟨en_FTX7_ok, en_PTX7_ok, en_an, en_LTX7_ok, en_LLX7_ok, en_TTX7_ok hl, ⟨cw256, cw147⟩, en_ACX7_ok⟩ de_X7_isIn ck_X7_isIn_55
def k_X7_isCell_13 : en_K := (2, ([.inl (0, 29, 0, 0), .inl ((-1), (-1), 0, 0)], [(5, 0, 0, 0, 0, 0)]), [([.inl (0, 29, 0, 0), .inl ((-1), (-1), 0, 0), .inl (0, 0, 0, 0)], [(5, 0, 0, 0, 0, 0)])], [], [], (0, 0), [])
def u_X7_isCell_13 : List en_U := []
def x_X7_isCell_13 : en_Cx := ((en_KT, en_TY0, en_om0), en_FTX7, en_PTX7, [(82, false, 0, 0, 0, k_X7_isIn_55), (82, false, 0, 0, 0, k_X7_isIn_50)], en_LTX7, en_LLX7, en_TTX7, en_ACX7)
def m_X7_isCell_13 : en_Mx := (k_X7_isCell_13, 1, 2, (0, 2), tb_X7_isCell, [])
set_option maxRecDepth 100000 in
theorem ck_X7_isCell_13 : en_all x_X7_isCell_13 m_X7_isCell_13 u_X7_isCell_13 15 = true := by decide +kernel
theorem ct_X7_isCell_13 {l : Launch} (hl : l.stackTraces = false) {cx cy : Int32} : en_Ctr l vwCl en_TY0 (en_Pc cx cy) en_om0 (en_Of cx cy) en_KT yX7_isCell (Cond.code yX7_isCell cX7_isCell 2 (some .boolean) :: en_cw) (en_rm 1 (0, 0)) 0 k_X7_isCell_13 :=
  en_main (X := x_X7_isCell_13) (M := m_X7_isCell_13) en_Pc_ok en_f32_ok en_f64_ok hl (by decide +kernel) ⟨en_FTX7_ok, en_PTX7_ok, en_ac (⟨yX7_isIn, RX7, cX7_isIn, 3, (some .boolean), by decide, ct_X7_isIn_55 hl, fun h => Bool.noConfusion h, fun _ => gc_RX7_82s⟩) (en_ac (⟨yX7_isIn, RX7, cX7_isIn, 3, (some .boolean), by decide, ct_X7_isIn_50 hl, fun h => Bool.noConfusion h, fun _ => gc_RX7_82s⟩) en_an), en_LTX7_ok, en_LLX7_ok, en_TTX7_ok hl, ⟨cw256, cw147⟩, en_ACX7_ok⟩ de_X7_isCell ck_X7_isCell_13
def tb_X7_comes : en_Tb := [
  (29, [(0, .iload_n 1, 1), (1, .iload_n 2, 1), (2, .invokestatic 106, 3), (5, .ifCond .eq 15, 3), (8, .aload_n 0, 1), (9, .iload_n 1, 1), (10, .iload_n 2, 1), (11, .invokevirtual 187, 3), (14, .ifCond .eq 6, 3), (17, .bipush 104, 2), (19, .ireturn, 1), (20, .iload_n 1, 1), (21, .iload_n 2, 1), (22, .invokestatic 106, 3), (25, .ifCond .eq 25, 3), (28, .aload_n 0, 1)]), 
  (58, [(29, .iload_n 1, 1), (30, .iload_n 2, 1), (31, .invokevirtual 175, 3), (34, .bipush 100, 2), (36, .if_icmp .eq 14, 3), (39, .aload_n 0, 1), (40, .iload_n 1, 1), (41, .iload_n 2, 1), (42, .invokevirtual 175, 3), (45, .bipush 111, 2), (47, .if_icmp .ne 8, 3), (50, .bipush 115, 2), (52, .goto 5, 3), (55, .bipush 108, 2), (57, .ireturn, 1)])]
set_option maxRecDepth 40000 in
theorem de_X7_comes : en_De tb_X7_comes cX7_comes := by
  unfold en_De
  decide +kernel
def k_X7_comes_0 : en_K := (3, ([.inr (.inl 20), .inl ((-1), 30, 0, 0), .inl ((-1), 20, 0, 0), .inl (0, 8, 0, 0)], [(0, 0, 25, 3, 0, 0), (5, 0, 0, 0, 0, 0)]), [([.inr (.inl 20), .inl (0, 29, 0, 0), .inl (0, 19, 0, 0), .inl (104, 104, 0, 0)], [(5, 0, 0, 0, 0, 0)]), ([.inr (.inl 20), .inl (0, 29, 0, 0), .inl (0, 19, 0, 0), .inl (108, 108, 0, 0)], [(2, 1, 2, 0, 0, 0), (5, 0, 0, 0, 0, 0)]), ([.inr (.inl 20), .inl (0, 29, 0, 0), .inl (0, 19, 0, 0), .inl (115, 115, 0, 0)], [(2, 1, 2, 0, 0, 0), (5, 0, 0, 0, 0, 0)]), ([.inr (.inl 20), .inl (30, 30, 0, 0), .inl ((-1), 20, 0, 0), .inl (115, 115, 0, 0)], [(5, 0, 0, 0, 0, 0)]), ([.inr (.inl 20), .inl ((-1), (-1), 0, 0), .inl ((-1), 20, 0, 0), .inl (115, 115, 0, 0)], [(5, 0, 0, 0, 0, 0)]), ([.inr (.inl 20), .inl (0, 29, 0, 0), .inl (20, 20, 0, 0), .inl (115, 115, 0, 0)], [(5, 0, 0, 0, 0, 0)]), ([.inr (.inl 20), .inl (0, 29, 0, 0), .inl ((-1), (-1), 0, 0), .inl (115, 115, 0, 0)], [(5, 0, 0, 0, 0, 0)])], [], [20, 21, 22, 23, 24], (0, 0), [])
def u_X7_comes_0 : List en_U := []
def x_X7_comes_0 : en_Cx := ((en_KT, en_TY0, en_om0), en_FTX7, en_PTX7, [(106, false, 0, 0, 1, k_X7_isCell_10), (106, false, 0, 0, 1, k_X7_isCell_11), (106, false, 0, 0, 1, k_X7_isCell_12), (106, false, 0, 0, 1, k_X7_isCell_13), (106, false, 0, 0, 1, k_X7_isCell_9), (106, false, 0, 0, 1, k_X7_isCell_8), (175, true, 13, 0, 0, k_X7_kind_0), (187, true, 13, 0, 1, k_X7_isCup_h)], en_LTX7, en_LLX7, en_TTX7, en_ACX7)
def m_X7_comes_0 : en_Mx := (k_X7_comes_0, 2, 3, (0, 1), tb_X7_comes, [])
set_option maxRecDepth 100000 in
theorem ck_X7_comes_0 : en_all x_X7_comes_0 m_X7_comes_0 u_X7_comes_0 31 = true := by decide +kernel
theorem ct_X7_comes_0 {l : Launch} (hl : l.stackTraces = false) {cx cy : Int32} : en_Ctr l vwCl en_TY0 (en_Pc cx cy) en_om0 (en_Of cx cy) en_KT yX7_comes (Cond.code yX7_comes cX7_comes 3 (some .char) :: en_cw) (en_rm 2 (0, 0)) 0 k_X7_comes_0 :=
  en_main (X := x_X7_comes_0) (M := m_X7_comes_0) en_Pc_ok en_f32_ok en_f64_ok hl (by decide +kernel) ⟨en_FTX7_ok, en_PTX7_ok, en_ac (⟨yX7_isCell, RX7, cX7_isCell, 2, (some .boolean), by decide, ct_X7_isCell_10 hl, fun h => Bool.noConfusion h, fun _ => gc_RX7_106s⟩) (en_ac (⟨yX7_isCell, RX7, cX7_isCell, 2, (some .boolean), by decide, ct_X7_isCell_11 hl, fun h => Bool.noConfusion h, fun _ => gc_RX7_106s⟩) (en_ac (⟨yX7_isCell, RX7, cX7_isCell, 2, (some .boolean), by decide, ct_X7_isCell_12 hl, fun h => Bool.noConfusion h, fun _ => gc_RX7_106s⟩) (en_ac (⟨yX7_isCell, RX7, cX7_isCell, 2, (some .boolean), by decide, ct_X7_isCell_13 hl, fun h => Bool.noConfusion h, fun _ => gc_RX7_106s⟩) (en_ac (⟨yX7_isCell, RX7, cX7_isCell, 2, (some .boolean), by decide, ct_X7_isCell_9 hl, fun h => Bool.noConfusion h, fun _ => gc_RX7_106s⟩) (en_ac (⟨yX7_isCell, RX7, cX7_isCell, 2, (some .boolean), by decide, ct_X7_isCell_8 hl, fun h => Bool.noConfusion h, fun _ => gc_RX7_106s⟩) (en_ac (⟨yX7_kind, RX7, cX7_kind, 3, (some .char), by decide, ct_X7_kind_0 hl, fun _ => ⟨gc_RX7_175v, by decide, _, rfl, rfl⟩, fun h => Bool.noConfusion h⟩) (en_ac (⟨yX7_isCup, RX7, cX7_isCup, 3, (some .boolean), by decide, ct_X7_isCup_h hl, fun _ => ⟨gc_RX7_187v, by decide, _, rfl, rfl⟩, fun h => Bool.noConfusion h⟩) en_an))))))), en_LTX7_ok, en_LLX7_ok, en_TTX7_ok hl, ⟨cw256, cw147⟩, en_ACX7_ok⟩ de_X7_comes ck_X7_comes_0
