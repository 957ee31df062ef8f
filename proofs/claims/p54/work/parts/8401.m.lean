def k_X7_divisor_6 : en_K := (2, ([.inl (1, 7, 0, 0), .inl (0, 6, 0, 0)], []), [([.inl (1, 7, 0, 0), .inl (0, 6, 0, 0), .inl (1, 7, 0, 0)], [])], [], [], (0, 0), [])
def u_X7_divisor_6 : List en_U := []
def x_X7_divisor_6 : en_Cx := ((en_KT, en_TY0, en_om0), en_FTX7, en_PTX7, [(211, false, 0, 0, 5, k_X7_divisor_5)], en_LTX7, en_LLX7, en_TTX7, en_ACX7)
def m_X7_divisor_6 : en_Mx := (k_X7_divisor_6, 6, 2, (0, 0), tb_X7_divisor, [])
set_option maxRecDepth 100000 in
theorem ck_X7_divisor_6 : en_all x_X7_divisor_6 m_X7_divisor_6 u_X7_divisor_6 11 = true := by decide +kernel
theorem ct_X7_divisor_6 {l : Launch} (hl : l.stackTraces = false) {cx cy : Int32} : en_Ctr l vwCl en_TY0 (en_Pc cx cy) en_om0 (en_Of cx cy) en_KT yX7_divisor (Cond.code yX7_divisor cX7_divisor 2 (some .int) :: en_cw) (en_rm 6 (0, 0)) 0 k_X7_divisor_6 :=
  en_main (X := x_X7_divisor_6) (M := m_X7_divisor_6) en_Pc_ok en_f32_ok en_f64_ok hl (by decide +kernel) ⟨en_FTX7_ok, en_PTX7_ok, en_ac (⟨yX7_divisor, RX7, cX7_divisor, 2, (some .int), by decide, ct_X7_divisor_5 hl, fun h => Bool.noConfusion h, fun _ => gc_RX7_211s⟩) en_an, en_LTX7_ok, en_LLX7_ok, en_TTX7_ok hl, ⟨cw256, cw147⟩, en_ACX7_ok⟩ de_X7_divisor ck_X7_divisor_6
def k_X7_divisor_7 : en_K := (2, ([.inl (1, 8, 0, 0), .inl (0, 7, 0, 0)], []), [([.inl (1, 8, 0, 0), .inl (0, 7, 0, 0), .inl (1, 8, 0, 0)], [])], [], [], (0, 0), [])
def u_X7_divisor_7 : List en_U := []
def x_X7_divisor_7 : en_Cx := ((en_KT, en_TY0, en_om0), en_FTX7, en_PTX7, [(211, false, 0, 0, 6, k_X7_divisor_6)], en_LTX7, en_LLX7, en_TTX7, en_ACX7)
def m_X7_divisor_7 : en_Mx := (k_X7_divisor_7, 7, 2, (0, 0), tb_X7_divisor, [])
set_option maxRecDepth 100000 in
theorem ck_X7_divisor_7 : en_all x_X7_divisor_7 m_X7_divisor_7 u_X7_divisor_7 11 = true := by decide +kernel
theorem ct_X7_divisor_7 {l : Launch} (hl : l.stackTraces = false) {cx cy : Int32} : en_Ctr l vwCl en_TY0 (en_Pc cx cy) en_om0 (en_Of cx cy) en_KT yX7_divisor (Cond.code yX7_divisor cX7_divisor 2 (some .int) :: en_cw) (en_rm 7 (0, 0)) 0 k_X7_divisor_7 :=
  en_main (X := x_X7_divisor_7) (M := m_X7_divisor_7) en_Pc_ok en_f32_ok en_f64_ok hl (by decide +kernel) ⟨en_FTX7_ok, en_PTX7_ok, en_ac (⟨yX7_divisor, RX7, cX7_divisor, 2, (some .int), by decide, ct_X7_divisor_6 hl, fun h => Bool.noConfusion h, fun _ => gc_RX7_211s⟩) en_an, en_LTX7_ok, en_LLX7_ok, en_TTX7_ok hl, ⟨cw256, cw147⟩, en_ACX7_ok⟩ de_X7_divisor ck_X7_divisor_7
def k_X7_divisor_8 : en_K := (2, ([.inl (1, 9, 0, 0), .inl (0, 8, 0, 0)], []), [([.inl (1, 9, 0, 0), .inl (0, 8, 0, 0), .inl (1, 9, 0, 0)], [])], [], [], (0, 0), [])
def u_X7_divisor_8 : List en_U := []
def x_X7_divisor_8 : en_Cx := ((en_KT, en_TY0, en_om0), en_FTX7, en_PTX7, [(211, false, 0, 0, 7, k_X7_divisor_7)], en_LTX7, en_LLX7, en_TTX7, en_ACX7)
def m_X7_divisor_8 : en_Mx := (k_X7_divisor_8, 8, 2, (0, 0), tb_X7_divisor, [])
set_option maxRecDepth 100000 in
theorem ck_X7_divisor_8 : en_all x_X7_divisor_8 m_X7_divisor_8 u_X7_divisor_8 11 = true := by decide +kernel
theorem ct_X7_divisor_8 {l : Launch} (hl : l.stackTraces = false) {cx cy : Int32} : en_Ctr l vwCl en_TY0 (en_Pc cx cy) en_om0 (en_Of cx cy) en_KT yX7_divisor (Cond.code yX7_divisor cX7_divisor 2 (some .int) :: en_cw) (en_rm 8 (0, 0)) 0 k_X7_divisor_8 :=
  en_main (X := x_X7_divisor_8) (M := m_X7_divisor_8) en_Pc_ok en_f32_ok en_f64_ok hl (by decide +kernel) ⟨en_FTX7_ok, en_PTX7_ok, en_ac (⟨yX7_divisor, RX7, cX7_divisor, 2, (some .int), by decide, ct_X7_divisor_7 hl, fun h => Bool.noConfusion h, fun _ => gc_RX7_211s⟩) en_an, en_LTX7_ok, en_LLX7_ok, en_TTX7_ok hl, ⟨cw256, cw147⟩, en_ACX7_ok⟩ de_X7_divisor ck_X7_divisor_8
def k_X7_divisor_9 : en_K := (2, ([.inl (1, 10, 0, 0), .inl (0, 9, 0, 0)], []), [([.inl (1, 10, 0, 0), .inl (0, 9, 0, 0), .inl (1, 10, 0, 0)], [])], [], [], (0, 0), [])
def u_X7_divisor_9 : List en_U := []
def x_X7_divisor_9 : en_Cx := ((en_KT, en_TY0, en_om0), en_FTX7, en_PTX7, [(211, false, 0, 0, 8, k_X7_divisor_8)], en_LTX7, en_LLX7, en_TTX7, en_ACX7)
def m_X7_divisor_9 : en_Mx := (k_X7_divisor_9, 9, 2, (0, 0), tb_X7_divisor, [])
set_option maxRecDepth 100000 in
theorem ck_X7_divisor_9 : en_all x_X7_divisor_9 m_X7_divisor_9 u_X7_divisor_9 11 = true := by decide +kernel
theorem ct_X7_divisor_9 {l : Launch} (hl : l.stackTraces = false) {cx cy : Int32} : en_Ctr l vwCl en_TY0 (en_Pc cx cy) en_om0 (en_Of cx cy) en_KT yX7_divisor (Cond.code yX7_divisor cX7_divisor 2 (some .int) :: en_cw) (en_rm 9 (0, 0)) 0 k_X7_divisor_9 :=
  en_main (X := x_X7_divisor_9) (M := m_X7_divisor_9) en_Pc_ok en_f32_ok en_f64_ok hl (by decide +kernel) ⟨en_FTX7_ok, en_PTX7_ok, en_ac (⟨yX7_divisor, RX7, cX7_divisor, 2, (some .int), by decide, ct_X7_divisor_8 hl, fun h => Bool.noConfusion h, fun _ => gc_RX7_211s⟩) en_an, en_LTX7_ok, en_LLX7_ok, en_TTX7_ok hl, ⟨cw256, cw147⟩, en_ACX7_ok⟩ de_X7_divisor ck_X7_divisor_9
def k_X7_divisor_10 : en_K := (2, ([.inl (1, 11, 0, 0), .inl (0, 10, 0, 0)], []), [([.inl (1, 11, 0, 0), .inl (0, 10, 0, 0), .inl (1, 11, 0, 0)], [])], [], [], (0, 0), [])
def u_X7_divisor_10 : List en_U := []
def x_X7_divisor_10 : en_Cx := ((en_KT, en_TY0, en_om0), en_FTX7, en_PTX7, [(211, false, 0, 0, 9, k_X7_divisor_9)], en_LTX7, en_LLX7, en_TTX7, en_ACX7)
def m_X7_divisor_10 : en_Mx := (k_X7_divisor_10, 10, 2, (0, 0), tb_X7_divisor, [])
set_option maxRecDepth 100000 in
theorem ck_X7_divisor_10 : en_all x_X7_divisor_10 m_X7_divisor_10 u_X7_divisor_10 11 = true := by decide +kernel
theorem ct_X7_divisor_10 {l : Launch} (hl : l.stackTraces = false) {cx cy : Int32} : en_Ctr l vwCl en_TY0 (en_Pc cx cy) en_om0 (en_Of cx cy) en_KT yX7_divisor (Cond.code yX7_divisor cX7_divisor 2 (some .int) :: en_cw) (en_rm 10 (0, 0)) 0 k_X7_divisor_10 :=
  en_main (X := x_X7_divisor_10) (M := m_X7_divisor_10) en_Pc_ok en_f32_ok en_f64_ok hl (by decide +kernel) ⟨en_FTX7_ok, en_PTX7_ok, en_ac (⟨yX7_divisor, RX7, cX7_divisor, 2, (some .int), by decide, ct_X7_divisor_9 hl, fun h => Bool.noConfusion h, fun _ => gc_RX7_211s⟩) en_an, en_LTX7_ok, en_LLX7_ok, en_TTX7_ok hl, ⟨cw256, cw147⟩, en_ACX7_ok⟩ de_X7_divisor ck_X7_divisor_10
def k_X7_divisor_11 : en_K := (2, ([.inl (1, 12, 0, 0), .inl (0, 11, 0, 0)], []), [([.inl (1, 12, 0, 0), .inl (0, 11, 0, 0), .inl (1, 12, 0, 0)], [])], [], [], (0, 0), [])
def u_X7_divisor_11 : List en_U := []
def x_X7_divisor_11 : en_Cx := ((en_KT, en_TY0, en_om0), en_FTX7, en_PTX7, [(211, false, 0, 0, 10, k_X7_divisor_10)], en_LTX7, en_LLX7, en_TTX7, en_ACX7)
def m_X7_divisor_11 : en_Mx := (k_X7_divisor_11, 11, 2, (0, 0), tb_X7_divisor, [])
set_option maxRecDepth 100000 in
theorem ck_X7_divisor_11 : en_all x_X7_divisor_11 m_X7_divisor_11 u_X7_divisor_11 11 = true := by decide +kernel
theorem ct_X7_divisor_11 {l : Launch} (hl : l.stackTraces = false) {cx cy : Int32} : en_Ctr l vwCl en_TY0 (en_Pc cx cy) en_om0 (en_Of cx cy) en_KT yX7_divisor (Cond.code yX7_divisor cX7_divisor 2 (some .int) :: en_cw) (en_rm 11 (0, 0)) 0 k_X7_divisor_11 :=
  en_main (X := x_X7_divisor_11) (M := m_X7_divisor_11) en_Pc_ok en_f32_ok en_f64_ok hl (by decide +kernel) ⟨en_FTX7_ok, en_PTX7_ok, en_ac (⟨yX7_divisor, RX7, cX7_divisor, 2, (some .int), by decide, ct_X7_divisor_10 hl, fun h => Bool.noConfusion h, fun _ => gc_RX7_211s⟩) en_an, en_LTX7_ok, en_LLX7_ok, en_TTX7_ok hl, ⟨cw256, cw147⟩, en_ACX7_ok⟩ de_X7_divisor ck_X7_divisor_11
def k_X7_divisor_12 : en_K := (2, ([.inl (1, 13, 0, 0), .inl (0, 12, 0, 0)], []), [([.inl (1, 13, 0, 0), .inl (0, 12, 0, 0), .inl (1, 13, 0, 0)], [])], [], [], (0, 0), [])
def u_X7_divisor_12 : List en_U := []
def x_X7_divisor_12 : en_Cx := ((en_KT, en_TY0, en_om0), en_FTX7, en_PTX7, [(211, false, 0, 0, 11, k_X7_divisor_11)], en_LTX7, en_LLX7, en_TTX7, en_ACX7)
def m_X7_divisor_12 : en_Mx := (k_X7_divisor_12, 12, 2, (0, 0), tb_X7_divisor, [])
set_option maxRecDepth 100000 in
theorem ck_X7_divisor_12 : en_all x_X7_divisor_12 m_X7_divisor_12 u_X7_divisor_12 11 = true := by decide +kernel
theorem ct_X7_divisor_12 {l : Launch} (hl : l.stackTraces = false) {cx cy : Int32} : en_Ctr l vwCl en_TY0 (en_Pc cx cy) en_om0 (en_Of cx cy) en_KT yX7_divisor (Cond.code yX7_divisor cX7_divisor 2 (some .int) :: en_cw) (en_rm 12 (0, 0)) 0 k_X7_divisor_12 :=
  en_main (X := x_X7_divisor_12) (M := m_X7_divisor_12) en_Pc_ok en_f32_ok en_f64_ok hl (by decide +kernel) ⟨en_FTX7_ok, en_PTX7_ok, en_ac (⟨yX7_divisor, RX7, cX7_divisor, 2, (some .int), by decide, ct_X7_divisor_11 hl, fun h => Bool.noConfusion h, fun _ => gc_RX7_211s⟩) en_an, en_LTX7_ok, en_LLX7_ok, en_TTX7_ok hl, ⟨cw256, cw147⟩, en_ACX7_ok⟩ de_X7_divisor ck_X7_divisor_12
def k_X7_divisor_13 : en_K := (2, ([.inl (1, 14, 0, 0), .inl (0, 13, 0, 0)], []), [([.inl (1, 14, 0, 0), .inl (0, 13, 0, 0), .inl (1, 14, 0, 0)], [])], [], [], (0, 0), [])
def u_X7_divisor_13 : List en_U := []
def x_X7_divisor_13 : en_Cx := ((en_KT, en_TY0, en_om0), en_FTX7, en_PTX7, [(211, false, 0, 0, 12, k_X7_divisor_12)], en_LTX7, en_LLX7, en_TTX7, en_ACX7)
def m_X7_divisor_13 : en_Mx := (k_X7_divisor_13, 13, 2, (0, 0), tb_X7_divisor, [])
set_option maxRecDepth 100000 in
theorem ck_X7_divisor_13 : en_all x_X7_divisor_13 m_X7_divisor_13 u_X7_divisor_13 11 = true := by decide +kernel
theorem ct_X7_divisor_13 {l : Launch} (hl : l.stackTraces = false) {cx cy : Int32} : en_Ctr l vwCl en_TY0 (en_Pc cx cy) en_om0 (en_Of cx cy) en_KT yX7_divisor (Cond.code yX7_divisor cX7_divisor 2 (some .int) :: en_cw) (en_rm 13 (0, 0)) 0 k_X7_divisor_13 :=
  en_main (X := x_X7_divisor_13) (M := m_X7_divisor_13) en_Pc_ok en_f32_ok en_f64_ok hl (by decide +kernel) ⟨en_FTX7_ok, en_PTX7_ok, en_ac (⟨yX7_divisor, RX7, cX7_divisor, 2, (some .int), by decide, ct_X7_divisor_12 hl, fun h => Bool.noConfusion h, fun _ => gc_RX7_211s⟩) en_an, en_LTX7_ok, en_LLX7_ok, en_TTX7_ok hl, ⟨cw256, cw147⟩, en_ACX7_ok⟩ de_X7_divisor ck_X7_divisor_13
def k_X7_divisor_14 : en_K := (2, ([.inl (1, 15, 0, 0), .inl (0, 14, 0, 0)], []), [([.inl (1, 15, 0, 0), .inl (0, 14, 0, 0), .inl (1, 15, 0, 0)], [])], [], [], (0, 0), [])
def u_X7_divisor_14 : List en_U := []
def x_X7_divisor_14 : en_Cx := ((en_KT, en_TY0, en_om0), en_FTX7, en_PTX7, [(211, false, 0, 0, 13, k_X7_divisor_13)], en_LTX7, en_LLX7, en_TTX7, en_ACX7)
def m_X7_divisor_14 : en_Mx := (k_X7_divisor_14, 14, 2, (0, 0), tb_X7_divisor, [])
set_option maxRecDepth 100000 in
theorem ck_X7_divisor_14 : en_all x_X7_divisor_14 m_X7_divisor_14 u_X7_divisor_14 11 = true := by decide +kernel
theorem ct_X7_divisor_14 {l : Launch} (hl : l.stackTraces = false) {cx cy : Int32} : en_Ctr l vwCl en_TY0 (en_Pc cx cy) en_om0 (en_Of cx cy) en_KT yX7_divisor (Cond.code yX7_divisor cX7_divisor 2 (some .int) :: en_cw) (en_rm 14 (0, 0)) 0 k_X7_divisor_14 :=
  en_main (X := x_X7_divisor_14) (M := m_X7_divisor_14) en_Pc_ok en_f32_ok en_f64_ok hl (by decide +kernel) ⟨en_FTX7_ok, en_PTX7_ok, en_ac (⟨yX7_divisor, RX7, cX7_divisor, 2, (some .int), by decide, ct_X7_divisor_13 hl, fun h => Bool.noConfusion h, fun _ => gc_RX7_211s⟩) en_an, en_LTX7_ok, en_LLX7_ok, en_TTX7_ok hl, ⟨cw256, cw147⟩, en_ACX7_ok⟩ de_X7_divisor ck_X7_divisor_14
def k_X7_divisor_15 : en_K := (2, ([.inl (1, 16, 0, 0), .inl (0, 15, 0, 0)], []), [([.inl (1, 16, 0, 0), .inl (0, 15, 0, 0), .inl (1, 16, 0, 0)], [])], [], [], (0, 0), [])
def u_X7_divisor_15 : List en_U := []
def x_X7_divisor_15 : en_Cx := ((en_KT, en_TY0, en_om0), en_FTX7, en_PTX7, [(211, false, 0, 0, 14, k_X7_divisor_14)], en_LTX7, en_LLX7, en_TTX7, en_ACX7)
def m_X7_divisor_15 : en_Mx := (k_X7_divisor_15, 15, 2, (0, 0), tb_X7_divisor, [])
set_option maxRecDepth 100000 in
theorem ck_X7_divisor_15 : en_all x_X7_divisor_15 m_X7_divisor_15 u_X7_divisor_15 11 = true := by decide +kernel
theorem ct_X7_divisor_15 {l : Launch} (hl : l.stackTraces = false) {cx cy : Int32} : en_Ctr l vwCl en_TY0 (en_Pc cx cy) en_om0 (en_Of cx cy) en_KT yX7_divisor (Cond.code yX7_divisor cX7_divisor 2 (some .int) :: en_cw) (en_rm 15 (0, 0)) 0 k_X7_divisor_15 :=
  en_main (X := x_X7_divisor_15) (M := m_X7_divisor_15) en_Pc_ok en_f32_ok en_f64_ok hl (by decide +kernel) ⟨en_FTX7_ok, en_PTX7_ok, en_ac (⟨yX7_divisor, RX7, cX7_divisor, 2, (some .int), by decide, ct_X7_divisor_14 hl, fun h => Bool.noConfusion h, fun _ => gc_RX7_211s⟩) en_an, en_LTX7_ok, en_LLX7_ok, en_TTX7_ok hl, ⟨cw256, cw147⟩, en_ACX7_ok⟩ de_X7_divisor ck_X7_divisor_15
def k_X7_divisor_16 : en_K := (2, ([.inl (1, 17, 0, 0), .inl (0, 16, 0, 0)], []), [([.inl (1, 17, 0, 0), .inl (0, 16, 0, 0), .inl (1, 17, 0, 0)], [])], [], [], (0, 0), [])
def u_X7_divisor_16 : List en_U := []
def x_X7_divisor_16 : en_Cx := ((en_KT, en_TY0, en_om0), en_FTX7, en_PTX7, [(211, false, 0, 0, 15, k_X7_divisor_15)], en_LTX7, en_LLX7, en_TTX7, en_ACX7)
def m_X7_divisor_16 : en_Mx := (k_X7_divisor_16, 16, 2, (0, 0), tb_X7_divisor, [])
set_option maxRecDepth 100000 in
theorem ck_X7_divisor_16 : en_all x_X7_divisor_16 m_X7_divisor_16 u_X7_divisor_16 11 = true := by decide +kernel
theorem ct_X7_divisor_16 {l : Launch} (hl : l.stackTraces = false) {cx cy : Int32} : en_Ctr l vwCl en_TY0 (en_Pc cx cy) en_om0 (en_Of cx cy) en_KT yX7_divisor (Cond.code yX7_divisor cX7_divisor 2 (some .int) :: en_cw) (en_rm 16 (0, 0)) 0 k_X7_divisor_16 :=
  en_main (X := x_X7_divisor_16) (M := m_X7_divisor_16) en_Pc_ok en_f32_ok en_f64_ok hl (by decide +kernel) ⟨en_FTX7_ok, en_PTX7_ok, en_ac (⟨yX7_divisor, RX7, cX7_divisor, 2, (some .int), by decide, ct_X7_divisor_15 hl, fun h => Bool.noConfusion h, fun _ => gc_RX7_211s⟩) en_an, en_LTX7_ok, en_LLX7_ok, en_TTX7_ok hl, ⟨cw256, cw147⟩, en_ACX7_ok⟩ de_X7_divisor ck_X7_divisor_16
def k_X7_divisor_17 : en_K := (2, ([.inl (1, 18, 0, 0), .inl (0, 17, 0, 0)], []), [([.inl (1, 18, 0, 0), .inl (0, 17, 0, 0), .inl (1, 18, 0, 0)], [])], [], [], (0, 0), [])
def u_X7_divisor_17 : List en_U := []
def x_X7_divisor_17 : en_Cx := ((en_KT, en_TY0, en_om0), en_FTX7, en_PTX7, [(211, false, 0, 0, 16, k_X7_divisor_16)], en_LTX7, en_LLX7, en_TTX7, en_ACX7)
def m_X7_divisor_17 : en_Mx := (k_X7_divisor_17, 17, 2, (0, 0), tb_X7_divisor, [])
set_option maxRecDepth 100000 in
theorem ck_X7_divisor_17 : en_all x_X7_divisor_17 m_X7_divisor_17 u_X7_divisor_17 11 = true := by decide +kernel
theorem ct_X7_divisor_17 {l : Launch} (hl : l.stackTraces = false) {cx cy : Int32} : en_Ctr l vwCl en_TY0 (en_Pc cx cy) en_om0 (en_Of cx cy) en_KT yX7_divisor (Cond.code yX7_divisor cX7_divisor 2 (some .int) :: en_cw) (en_rm 17 (0, 0)) 0 k_X7_divisor_17 :=
  en_main (X := x_X7_divisor_17) (M := m_X7_divisor_17) en_Pc_ok en_f32_ok en_f64_ok hl (by decide +kernel) ⟨en_FTX7_ok, en_PTX7_ok, en_ac (⟨yX7_divisor, RX7, cX7_divisor, 2, (some .int), by decide, ct_X7_divisor_16 hl, fun h => Bool.noConfusion h, fun _ => gc_RX7_211s⟩) en_an, en_LTX7_ok, en_LLX7_ok, en_TTX7_ok hl, ⟨cw256, cw147⟩, en_ACX7_ok⟩ de_X7_divisor ck_X7_divisor_17
def k_X7_divisor_18 : en_K := (2, ([.inl (1, 19, 0, 0), .inl (0, 18, 0, 0)], []), [([.inl (1, 19, 0, 0), .inl (0, 18, 0, 0), .inl (1, 19, 0, 0)], [])], [], [], (0, 0), [])
def u_X7_divisor_18 : List en_U := []
def x_X7_divisor_18 : en_Cx := ((en_KT, en_TY0, en_om0), en_FTX7, en_PTX7, [(211, false, 0, 0, 17, k_X7_divisor_17)], en_LTX7, en_LLX7, en_TTX7, en_ACX7)
def m_X7_divisor_18 : en_Mx := (k_X7_divisor_18, 18, 2, (0, 0), tb_X7_divisor, [])
set_option maxRecDepth 100000 in
theorem ck_X7_divisor_18 : en_all x_X7_divisor_18 m_X7_divisor_18 u_X7_divisor_18 11 = true := by decide +kernel
theorem ct_X7_divisor_18 {l : Launch} (hl : l.stackTraces = false) {cx cy : Int32} : en_Ctr l vwCl en_TY0 (en_Pc cx cy) en_om0 (en_Of cx cy) en_KT yX7_divisor (Cond.code yX7_divisor cX7_divisor 2 (some .int) :: en_cw) (en_rm 18 (0, 0)) 0 k_X7_divisor_18 :=
  en_main (X := x_X7_divisor_18) (M := m_X7_divisor_18) en_Pc_ok en_f32_ok en_f64_ok hl (by decide +kernel) ⟨en_FTX7_ok, en_PTX7_ok, en_ac (⟨yX7_divisor, RX7, cX7_divisor, 2, (some .int), by decide, ct_X7_divisor_17 hl, fun h => Bool.noConfusion h, fun _ => gc_RX7_211s⟩) en_an, en_LTX7_ok, en_LLX7_ok, en_TTX7_ok hl, ⟨cw256, cw147⟩, en_ACX7_ok⟩ de_X7_divisor ck_X7_divisor_18
def k_X7_divisor_19 : en_K := (2, ([.inl (1, 29, 0, 0), .inl (0, 19, 0, 0)], []), [([.inl (1, 29, 0, 0), .inl (0, 19, 0, 0), .inl (1, 29, 0, 0)], [])], [], [], (0, 0), [])
def u_X7_divisor_19 : List en_U := []
def x_X7_divisor_19 : en_Cx := ((en_KT, en_TY0, en_om0), en_FTX7, en_PTX7, [(211, false, 0, 0, 18, k_X7_divisor_18)], en_LTX7, en_LLX7, en_TTX7, en_ACX7)
def m_X7_divisor_19 : en_Mx := (k_X7_divisor_19, 19, 2, (0, 0), tb_X7_divisor, [])
set_option maxRecDepth 100000 in
theorem ck_X7_divisor_19 : en_all x_X7_divisor_19 m_X7_divisor_19 u_X7_divisor_19 11 = true := by decide +kernel
theorem ct_X7_divisor_19 {l : Launch} (hl : l.stackTraces = false) {cx cy : Int32} : en_Ctr l vwCl en_TY0 (en_Pc cx cy) en_om0 (en_Of cx cy) en_KT yX7_divisor (Cond.code yX7_divisor cX7_divisor 2 (some .int) :: en_cw) (en_rm 19 (0, 0)) 0 k_X7_divisor_19 :=
  en_main (X := x_X7_divisor_19) (M := m_X7_divisor_19) en_Pc_ok en_f32_ok en_f64_ok hl (by decide +kernel) ⟨en_FTX7_ok, en_PTX7_ok, en_ac (⟨yX7_divisor, RX7, cX7_divisor, 2, (some .int), by decide, ct_X7_divisor_18 hl, fun h => Bool.noConfusion h, fun _ => gc_RX7_211s⟩) en_an, en_LTX7_ok, en_LLX7_ok, en_TTX7_ok hl, ⟨cw256, cw147⟩, en_ACX7_ok⟩ de_X7_divisor ck_X7_divisor_19
