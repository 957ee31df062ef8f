def k_X7_isIn_31 : en_K := (3, ([.inl (0, 0, 0, 0), .inl ((-1), (-1), 0, 0), .inl (3, 3, 0, 0)], []), [([.inl (0, 0, 0, 0), .inl ((-1), (-1), 0, 0), .inl (3, 3, 0, 0), .inl (1, 1, 0, 0)], [])], [], [], (0, 0), [])
def u_X7_isIn_31 : List en_U := []
def x_X7_isIn_31 : en_Cx := ((en_KT, en_TY0, en_om0), en_FTX7, en_PTX7, [], en_LTX7, en_LLX7, en_TTX7, en_ACX7)
def m_X7_isIn_31 : en_Mx := (k_X7_isIn_31, 0, 3, (0, 2), tb_X7_isIn, [])
set_option maxRecDepth 100000 in
theorem ck_X7_isIn_31 : en_all x_X7_isIn_31 m_X7_isIn_31 u_X7_isIn_31 12 = true := by decide +kernel
theorem ct_X7_isIn_31 {l : Launch} (hl : l.stackTraces = false) {cx cy : Int32} : en_Ctr l vwCl en_TY0 (en_Pc cx cy) en_om0 (en_Of cx cy) en_KT yX7_isIn (Cond.code yX7_isIn cX7_isIn 3 (some .boolean) :: en_cw) (en_rm 0 (0, 0)) 0 k_X7_isIn_31 :=
  en_main (X := x_X7_isIn_31) (M := m_X7_isIn_31) en_Pc_ok en_f32_ok en_f64_ok hl (by decide +kernel) ⟨en_FTX7_ok, en_PTX7_ok, en_an, en_LTX7_ok, en_LLX7_ok, en_TTX7_ok hl, ⟨cw256, cw147⟩, en_ACX7_ok⟩ de_X7_isIn ck_X7_isIn_31
def k_X7_conditions_5 : en_K := (2, ([.inr (.inl 20), .inl (0, 0, 0, 0), .inl ((-1), (-1), 0, 0)], [(0, 0, 29, 2, 0, 0)]), [([.inr (.inl 20), .inl (0, 0, 0, 0), .inl ((-1), (-1), 0, 0), .inl (0, 0, 0, 0)], [(0, 0, 29, 1, 0, 0), (0, 0, 30, 3, 0, 0)])], [(20, 29), (20, 30)], [20], (0, 0), [])
def u_X7_conditions_5 : List en_U := []
def x_X7_conditions_5 : en_Cx := ((en_KT, en_TY0, en_om0), en_FTX7, en_PTX7, [(82, false, 0, 0, 0, k_X7_isIn_31), (110, true, 13, 0, 0, k_X7_isThrown_18)], en_LTX7, en_LLX7, en_TTX7, en_ACX7)
def m_X7_conditions_5 : en_Mx := (k_X7_conditions_5, 1, 3, (0, 0), tb_X7_conditions, [])
set_option maxRecDepth 100000 in
theorem ck_X7_conditions_5 : en_all x_X7_conditions_5 m_X7_conditions_5 u_X7_conditions_5 21 = true := by decide +kernel
theorem ct_X7_conditions_5 {l : Launch} (hl : l.stackTraces = false) {cx cy : Int32} : en_Ctr l vwCl en_TY0 (en_Pc cx cy) en_om0 (en_Of cx cy) en_KT yX7_conditions (Cond.code yX7_conditions cX7_conditions 3 (some .int) :: en_cw) (en_rm 1 (0, 0)) 0 k_X7_conditions_5 :=
  en_main (X := x_X7_conditions_5) (M := m_X7_conditions_5) en_Pc_ok en_f32_ok en_f64_ok hl (by decide +kernel) ⟨en_FTX7_ok, en_PTX7_ok, en_ac (⟨yX7_isIn, RX7, cX7_isIn, 3, (some .boolean), by decide, ct_X7_isIn_31 hl, fun h => Bool.noConfusion h, fun _ => gc_RX7_82s⟩) (en_ac (⟨yX7_isThrown, RX7, cX7_isThrown, 3, (some .boolean), by decide, ct_X7_isThrown_18 hl, fun _ => ⟨gc_RX7_110v, by decide, _, rfl, rfl⟩, fun h => Bool.noConfusion h⟩) en_an), en_LTX7_ok, en_LLX7_ok, en_TTX7_ok hl, ⟨cw256, cw147⟩, en_ACX7_ok⟩ de_X7_conditions ck_X7_conditions_5
def k_X7_conditions_6 : en_K := (2, ([.inr (.inl 20), .inl (0, 0, 0, 0), .inl (0, 0, 0, 0)], [(0, 0, 29, 2, 0, 0)]), [([.inr (.inl 20), .inl (0, 0, 0, 0), .inl (0, 0, 0, 0), .inl (0, 0, 0, 0)], [(0, 0, 29, 1, 0, 0), (0, 0, 30, 3, 0, 0)])], [(20, 29), (20, 30)], [20], (0, 0), [])
def u_X7_conditions_6 : List en_U := []
def x_X7_conditions_6 : en_Cx := ((en_KT, en_TY0, en_om0), en_FTX7, en_PTX7, [(82, false, 0, 0, 0, k_X7_isIn_31), (110, true, 13, 0, 0, k_X7_isThrown_18)], en_LTX7, en_LLX7, en_TTX7, en_ACX7)
def m_X7_conditions_6 : en_Mx := (k_X7_conditions_6, 1, 3, (0, 0), tb_X7_conditions, [])
set_option maxRecDepth 100000 in
theorem ck_X7_conditions_6 : en_all x_X7_conditions_6 m_X7_conditions_6 u_X7_conditions_6 21 = true := by decide +kernel
theorem ct_X7_conditions_6 {l : Launch} (hl : l.stackTraces = false) {cx cy : Int32} : en_Ctr l vwCl en_TY0 (en_Pc cx cy) en_om0 (en_Of cx cy) en_KT yX7_conditions (Cond.code yX7_conditions cX7_conditions 3 (some .int) :: en_cw) (en_rm 1 (0, 0)) 0 k_X7_conditions_6 :=
  en_main (X := x_X7_conditions_6) (M := m_X7_conditions_6) en_Pc_ok en_f32_ok en_f64_ok hl (by decide +kernel) ⟨en_FTX7_ok, en_PTX7_ok, en_ac (⟨yX7_isIn, RX7, cX7_isIn, 3, (some .boolean), by decide, ct_X7_isIn_31 hl, fun h => Bool.noConfusion h, fun _ => gc_RX7_82s⟩) (en_ac (⟨yX7_isThrown, RX7, cX7_isThrown, 3, (some .boolean), by decide, ct_X7_isThrown_18 hl, fun _ => ⟨gc_RX7_110v, by decide, _, rfl, rfl⟩, fun h => Bool.noConfusion h⟩) en_an), en_LTX7_ok, en_LLX7_ok, en_TTX7_ok hl, ⟨cw256, cw147⟩, en_ACX7_ok⟩ de_X7_conditions ck_X7_conditions_6
def k_X7_conditions_7 : en_K := (2, ([.inr (.inl 20), .inl (0, 0, 0, 0), .inl (1, 1, 0, 0)], [(0, 0, 29, 2, 0, 0)]), [([.inr (.inl 20), .inl (0, 0, 0, 0), .inl (1, 1, 0, 0), .inl (0, 0, 0, 0)], [(0, 0, 29, 1, 0, 0), (0, 0, 30, 3, 0, 0)])], [(20, 29), (20, 30)], [20], (0, 0), [])
def u_X7_conditions_7 : List en_U := []
def x_X7_conditions_7 : en_Cx := ((en_KT, en_TY0, en_om0), en_FTX7, en_PTX7, [(82, false, 0, 0, 0, k_X7_isIn_31), (110, true, 13, 0, 0, k_X7_isThrown_18)], en_LTX7, en_LLX7, en_TTX7, en_ACX7)
def m_X7_conditions_7 : en_Mx := (k_X7_conditions_7, 1, 3, (0, 0), tb_X7_conditions, [])
set_option maxRecDepth 100000 in
theorem ck_X7_conditions_7 : en_all x_X7_conditions_7 m_X7_conditions_7 u_X7_conditions_7 21 = true := by decide +kernel
theorem ct_X7_conditions_7 {l : Launch} (hl : l.stackTraces = false) {cx cy : Int32} : en_Ctr l vwCl en_TY0 (en_Pc cx cy) en_om0 (en_Of cx cy) en_KT yX7_conditions (Cond.code yX7_conditions cX7_conditions 3 (some .int) :: en_cw) (en_rm 1 (0, 0)) 0 k_X7_conditions_7 :=
  en_main (X := x_X7_conditions_7) (M := m_X7_conditions_7) en_Pc_ok en_f32_ok en_f64_ok hl (by decide +kernel) ⟨en_FTX7_ok, en_PTX7_ok, en_ac (⟨yX7_isIn, RX7, cX7_isIn, 3, (some .boolean), by decide, ct_X7_isIn_31 hl, fun h => Bool.noConfusion h, fun _ => gc_RX7_82s⟩) (en_ac (⟨yX7_isThrown, RX7, cX7_isThrown, 3, (some .boolean), by decide, ct_X7_isThrown_18 hl, fun _ => ⟨gc_RX7_110v, by decide, _, rfl, rfl⟩, fun h => Bool.noConfusion h⟩) en_an), en_LTX7_ok, en_LLX7_ok, en_TTX7_ok hl, ⟨cw256, cw147⟩, en_ACX7_ok⟩ de_X7_conditions ck_X7_conditions_7
def k_X7_conditions_8 : en_K := (2, ([.inr (.inl 20), .inl (0, 0, 0, 0), .inl (2, 2, 0, 0)], [(0, 0, 29, 2, 0, 0)]), [([.inr (.inl 20), .inl (0, 0, 0, 0), .inl (2, 2, 0, 0), .inl (0, 0, 0, 0)], [(0, 0, 29, 1, 0, 0), (0, 0, 30, 3, 0, 0)])], [(20, 29), (20, 30)], [20], (0, 0), [])
def u_X7_conditions_8 : List en_U := []
def x_X7_conditions_8 : en_Cx := ((en_KT, en_TY0, en_om0), en_FTX7, en_PTX7, [(82, false, 0, 0, 0, k_X7_isIn_31), (110, true, 13, 0, 0, k_X7_isThrown_18)], en_LTX7, en_LLX7, en_TTX7, en_ACX7)
def m_X7_conditions_8 : en_Mx := (k_X7_conditions_8, 1, 3, (0, 0), tb_X7_conditions, [])
set_option maxRecDepth 100000 in
theorem ck_X7_conditions_8 : en_all x_X7_conditions_8 m_X7_conditions_8 u_X7_conditions_8 21 = true := by decide +kernel
theorem ct_X7_conditions_8 {l : Launch} (hl : l.stackTraces = false) {cx cy : Int32} : en_Ctr l vwCl en_TY0 (en_Pc cx cy) en_om0 (en_Of cx cy) en_KT yX7_conditions (Cond.code yX7_conditions cX7_conditions 3 (some .int) :: en_cw) (en_rm 1 (0, 0)) 0 k_X7_conditions_8 :=
  en_main (X := x_X7_conditions_8) (M := m_X7_conditions_8) en_Pc_ok en_f32_ok en_f64_ok hl (by decide +kernel) ⟨en_FTX7_ok, en_PTX7_ok, en_ac (⟨yX7_isIn, RX7, cX7_isIn, 3, (some .boolean), by decide, ct_X7_isIn_31 hl, fun h => Bool.noConfusion h, fun _ => gc_RX7_82s⟩) (en_ac (⟨yX7_isThrown, RX7, cX7_isThrown, 3, (some .boolean), by decide, ct_X7_isThrown_18 hl, fun _ => ⟨gc_RX7_110v, by decide, _, rfl, rfl⟩, fun h => Bool.noConfusion h⟩) en_an), en_LTX7_ok, en_LLX7_ok, en_TTX7_ok hl, ⟨cw256, cw147⟩, en_ACX7_ok⟩ de_X7_conditions ck_X7_conditions_8
def k_X7_conditions_9 : en_K := (2, ([.inr (.inl 20), .inl (0, 0, 0, 0), .inl (3, 3, 0, 0)], [(0, 0, 29, 2, 0, 0)]), [([.inr (.inl 20), .inl (0, 0, 0, 0), .inl (3, 3, 0, 0), .inl (0, 0, 0, 0)], [(0, 0, 29, 1, 0, 0), (0, 0, 30, 3, 0, 0)])], [(20, 29), (20, 30)], [20], (0, 0), [])
def u_X7_conditions_9 : List en_U := []
def x_X7_conditions_9 : en_Cx := ((en_KT, en_TY0, en_om0), en_FTX7, en_PTX7, [(82, false, 0, 0, 0, k_X7_isIn_31), (110, true, 13, 0, 0, k_X7_isThrown_18)], en_LTX7, en_LLX7, en_TTX7, en_ACX7)
def m_X7_conditions_9 : en_Mx := (k_X7_conditions_9, 1, 3, (0, 0), tb_X7_conditions, [])
set_option maxRecDepth 100000 in
theorem ck_X7_conditions_9 : en_all x_X7_conditions_9 m_X7_conditions_9 u_X7_conditions_9 21 = true := by decide +kernel
theorem ct_X7_conditions_9 {l : Launch} (hl : l.stackTraces = false) {cx cy : Int32} : en_Ctr l vwCl en_TY0 (en_Pc cx cy) en_om0 (en_Of cx cy) en_KT yX7_conditions (Cond.code yX7_conditions cX7_conditions 3 (some .int) :: en_cw) (en_rm 1 (0, 0)) 0 k_X7_conditions_9 :=
  en_main (X := x_X7_conditions_9) (M := m_X7_conditions_9) en_Pc_ok en_f32_ok en_f64_ok hl (by decide +kernel) ⟨en_FTX7_ok, en_PTX7_ok, en_ac (⟨yX7_isIn, RX7, cX7_isIn, 3, (some .boolean), by decide, ct_X7_isIn_31 hl, fun h => Bool.noConfusion h, fun _ => gc_RX7_82s⟩) (en_ac (⟨yX7_isThrown, RX7, cX7_isThrown, 3, (some .boolean), by decide, ct_X7_isThrown_18 hl, fun _ => ⟨gc_RX7_110v, by decide, _, rfl, rfl⟩, fun h => Bool.noConfusion h⟩) en_an), en_LTX7_ok, en_LLX7_ok, en_TTX7_ok hl, ⟨cw256, cw147⟩, en_ACX7_ok⟩ de_X7_conditions ck_X7_conditions_9
def k_X7_isIn_32 : en_K := (3, ([.inl (1, 1, 0, 0), .inl ((-1), (-1), 0, 0), .inl (3, 3, 0, 0)], []), [([.inl (1, 1, 0, 0), .inl ((-1), (-1), 0, 0), .inl (3, 3, 0, 0), .inl (1, 1, 0, 0)], [])], [], [], (0, 0), [])
def u_X7_isIn_32 : List en_U := []
def x_X7_isIn_32 : en_Cx := ((en_KT, en_TY0, en_om0), en_FTX7, en_PTX7, [], en_LTX7, en_LLX7, en_TTX7, en_ACX7)
def m_X7_isIn_32 : en_Mx := (k_X7_isIn_32, 0, 3, (0, 2), tb_X7_isIn, [])
set_option maxRecDepth 100000 in
theorem ck_X7_isIn_32 : en_all x_X7_isIn_32 m_X7_isIn_32 u_X7_isIn_32 12 = true := by decide +kernel
theorem ct_X7_isIn_32 {l : Launch} (hl : l.stackTraces = false) {cx cy : Int32} : en_Ctr l vwCl en_TY0 (en_Pc cx cy) en_om0 (en_Of cx cy) en_KT yX7_isIn (Cond.code yX7_isIn cX7_isIn 3 (some .boolean) :: en_cw) (en_rm 0 (0, 0)) 0 k_X7_isIn_32 :=
  en_main (X := x_X7_isIn_32) (M := m_X7_isIn_32) en_Pc_ok en_f32_ok en_f64_ok hl (by decide +kernel) ⟨en_FTX7_ok, en_PTX7_ok, en_an, en_LTX7_ok, en_LLX7_ok, en_TTX7_ok hl, ⟨cw256, cw147⟩, en_ACX7_ok⟩ de_X7_isIn ck_X7_isIn_32
def k_X7_conditions_10 : en_K := (2, ([.inr (.inl 20), .inl (1, 1, 0, 0), .inl ((-1), (-1), 0, 0)], [(0, 0, 29, 2, 0, 0)]), [([.inr (.inl 20), .inl (1, 1, 0, 0), .inl ((-1), (-1), 0, 0), .inl (0, 0, 0, 0)], [(0, 0, 29, 1, 0, 0), (0, 0, 30, 3, 0, 0)])], [(20, 29), (20, 30)], [20], (0, 0), [])
def u_X7_conditions_10 : List en_U := []
def x_X7_conditions_10 : en_Cx := ((en_KT, en_TY0, en_om0), en_FTX7, en_PTX7, [(82, false, 0, 0, 0, k_X7_isIn_32), (110, true, 13, 0, 0, k_X7_isThrown_18)], en_LTX7, en_LLX7, en_TTX7, en_ACX7)
def m_X7_conditions_10 : en_Mx := (k_X7_conditions_10, 1, 3, (0, 0), tb_X7_conditions, [])
set_option maxRecDepth 100000 in
theorem ck_X7_conditions_10 : en_all x_X7_conditions_10 m_X7_conditions_10 u_X7_conditions_10 21 = true := by decide +kernel
theorem ct_X7_conditions_10 {l : Launch} (hl : l.stackTraces = false) {cx cy : Int32} : en_Ctr l vwCl en_TY0 (en_Pc cx cy) en_om0 (en_Of cx cy) en_KT yX7_conditions (Cond.code yX7_conditions cX7_conditions 3 (some .int) :: en_cw) (en_rm 1 (0, 0)) 0 k_X7_conditions_10 :=
  en_main (X := x_X7_conditions_10) (M := m_X7_conditions_10) en_Pc_ok en_f32_ok en_f64_ok hl (by decide +kernel) ⟨en_FTX7_ok, en_PTX7_ok, en_ac (⟨yX7_isIn, RX7, cX7_isIn, 3, (some .boolean), by decide, ct_X7_isIn_32 hl, fun h => Bool.noConfusion h, fun _ => gc_RX7_82s⟩) (en_ac (⟨yX7_isThrown, RX7, cX7_isThrown, 3, (some .boolean), by decide, ct_X7_isThrown_18 hl, fun _ => ⟨gc_RX7_110v, by decide, _, rfl, rfl⟩, fun h => Bool.noConfusion h⟩) en_an), en_LTX7_ok, en_LLX7_ok, en_TTX7_ok hl, ⟨cw256, cw147⟩, en_ACX7_ok⟩ de_X7_conditions ck_X7_conditions_10
def k_X7_conditions_11 : en_K := (2, ([.inr (.inl 20), .inl (1, 1, 0, 0), .inl (0, 0, 0, 0)], [(0, 0, 29, 2, 0, 0)]), [([.inr (.inl 20), .inl (1, 1, 0, 0), .inl (0, 0, 0, 0), .inl (0, 0, 0, 0)], [(0, 0, 29, 1, 0, 0), (0, 0, 30, 3, 0, 0)])], [(20, 29), (20, 30)], [20], (0, 0), [])
def u_X7_conditions_11 : List en_U := []
def x_X7_conditions_11 : en_Cx := ((en_KT, en_TY0, en_om0), en_FTX7, en_PTX7, [(82, false, 0, 0, 0, k_X7_isIn_32), (110, true, 13, 0, 0, k_X7_isThrown_18)], en_LTX7, en_LLX7, en_TTX7, en_ACX7)
def m_X7_conditions_11 : en_Mx := (k_X7_conditions_11, 1, 3, (0, 0), tb_X7_conditions, [])
set_option maxRecDepth 100000 in
theorem ck_X7_conditions_11 : en_all x_X7_conditions_11 m_X7_conditions_11 u_X7_conditions_11 21 = true := by decide +kernel
theorem ct_X7_conditions_11 {l : Launch} (hl : l.stackTraces = false) {cx cy : Int32} : en_Ctr l vwCl en_TY0 (en_Pc cx cy) en_om0 (en_Of cx cy) en_KT yX7_conditions (Cond.code yX7_conditions cX7_conditions 3 (some .int) :: en_cw) (en_rm 1 (0, 0)) 0 k_X7_conditions_11 :=
  en_main (X := x_X7_conditions_11) (M := m_X7_conditions_11) en_Pc_ok en_f32_ok en_f64_ok hl (by decide +kernel) ⟨en_FTX7_ok, en_PTX7_ok, en_ac (⟨yX7_isIn, RX7, cX7_isIn, 3, (some .boolean), by decide, ct_X7_isIn_32 hl, fun h => Bool.noConfusion h, fun _ => gc_RX7_82s⟩) (en_ac (⟨yX7_isThrown, RX7, cX7_isThrown, 3, (some .boolean), by decide, ct_X7_isThrown_18 hl, fun _ => ⟨gc_RX7_110v, by decide, _, rfl, rfl⟩, fun h => Bool.noConfusion h⟩) en_an), en_LTX7_ok, en_LLX7_ok, en_TTX7_ok hl, ⟨cw256, cw147⟩, en_ACX7_ok⟩ de_X7_conditions ck_X7_conditions_11
def k_X7_conditions_12 : en_K := (2, ([.inr (.inl 20), .inl (1, 1, 0, 0), .inl (1, 1, 0, 0)], [(0, 0, 29, 2, 0, 0)]), [([.inr (.inl 20), .inl (1, 1, 0, 0), .inl (1, 1, 0, 0), .inl (0, 0, 0, 0)], [(0, 0, 29, 1, 0, 0), (0, 0, 30, 3, 0, 0)])], [(20, 29), (20, 30)], [20], (0, 0), [])
def u_X7_conditions_12 : List en_U := []
def x_X7_conditions_12 : en_Cx := ((en_KT, en_TY0, en_om0), en_FTX7, en_PTX7, [(82, false, 0, 0, 0, k_X7_isIn_32), (110, true, 13, 0, 0, k_X7_isThrown_18)], en_LTX7, en_LLX7, en_TTX7, en_ACX7)
def m_X7_conditions_12 : en_Mx := (k_X7_conditions_12, 1, 3, (0, 0), tb_X7_conditions, [])
set_option maxRecDepth 100000 in
theorem ck_X7_conditions_12 : en_all x_X7_conditions_12 m_X7_conditions_12 u_X7_conditions_12 21 = true := by decide +kernel
theorem ct_X7_conditions_12 {l : Launch} (hl : l.stackTraces = false) {cx cy : Int32} : en_Ctr l vwCl en_TY0 (en_Pc cx cy) en_om0 (en_Of cx cy) en_KT yX7_conditions (Cond.code yX7_conditions cX7_conditions 3 (some .int) :: en_cw) (en_rm 1 (0, 0)) 0 k_X7_conditions_12 :=
  en_main (X := x_X7_conditions_12) (M := m_X7_conditions_12) en_Pc_ok en_f32_ok en_f64_ok hl (by decide +kernel) ⟨en_FTX7_ok, en_PTX7_ok, en_ac (⟨yX7_isIn, RX7, cX7_isIn, 3, (some .boolean), by decide, ct_X7_isIn_32 hl, fun h => Bool.noConfusion h, fun _ => gc_RX7_82s⟩) (en_ac (⟨yX7_isThrown, RX7, cX7_isThrown, 3, (some .boolean), by decide, ct_X7_isThrown_18 hl, fun _ => ⟨gc_RX7_110v, by decide, _, rfl, rfl⟩, fun h => Bool.noConfusion h⟩) en_an), en_LTX7_ok, en_LLX7_ok, en_TTX7_ok hl, ⟨cw256, cw147⟩, en_ACX7_ok⟩ de_X7_conditions ck_X7_conditions_12
def k_X7_conditions_13 : en_K := (2, ([.inr (.inl 20), .inl (1, 1, 0, 0), .inl (2, 2, 0, 0)], [(0, 0, 29, 2, 0, 0)]), [([.inr (.inl 20), .inl (1, 1, 0, 0), .inl (2, 2, 0, 0), .inl (0, 0, 0, 0)], [(0, 0, 29, 1, 0, 0), (0, 0, 30, 3, 0, 0)])], [(20, 29), (20, 30)], [20], (0, 0), [])
def u_X7_conditions_13 : List en_U := []
def x_X7_conditions_13 : en_Cx := ((en_KT, en_TY0, en_om0), en_FTX7, en_PTX7, [(82, false, 0, 0, 0, k_X7_isIn_32), (110, true, 13, 0, 0, k_X7_isThrown_18)], en_LTX7, en_LLX7, en_TTX7, en_ACX7)
def m_X7_conditions_13 : en_Mx := (k_X7_conditions_13, 1, 3, (0, 0), tb_X7_conditions, [])
set_option maxRecDepth 100000 in
theorem ck_X7_conditions_13 : en_all x_X7_conditions_13 m_X7_conditions_13 u_X7_conditions_13 21 = true := by decide +kernel
theorem ct_X7_conditions_13 {l : Launch} (hl : l.stackTraces = false) {cx cy : Int32} : en_Ctr l vwCl en_TY0 (en_Pc cx cy) en_om0 (en_Of cx cy) en_KT yX7_conditions (Cond.code yX7_conditions cX7_conditions 3 (some .int) :: en_cw) (en_rm 1 (0, 0)) 0 k_X7_conditions_13 :=
  en_main (X := x_X7_conditions_13) (M := m_X7_conditions_13) en_Pc_ok en_f32_ok en_f64_ok hl (by decide +kernel) ⟨en_FTX7_ok, en_PTX7_ok, en_ac (⟨yX7_isIn, RX7, cX7_isIn, 3, (some .boolean), by decide, ct_X7_isIn_32 hl, fun h => Bool.noConfusion h, fun _ => gc_RX7_82s⟩) (en_ac (⟨yX7_isThrown, RX7, cX7_isThrown, 3, (some .boolean), by decide, ct_X7_isThrown_18 hl, fun _ => ⟨gc_RX7_110v, by decide, _, rfl, rfl⟩, fun h => Bool.noConfusion h⟩) en_an), en_LTX7_ok, en_LLX7_ok, en_TTX7_ok hl, ⟨cw256, cw147⟩, en_ACX7_ok⟩ de_X7_conditions ck_X7_conditions_13
def k_X7_conditions_14 : en_K := (2, ([.inr (.inl 20), .inl (1, 1, 0, 0), .inl (3, 3, 0, 0)], [(0, 0, 29, 2, 0, 0)]), [([.inr (.inl 20), .inl (1, 1, 0, 0), .inl (3, 3, 0, 0), .inl (0, 0, 0, 0)], [(0, 0, 29, 1, 0, 0), (0, 0, 30, 3, 0, 0)])], [(20, 29), (20, 30)], [20], (0, 0), [])
def u_X7_conditions_14 : List en_U := []
def x_X7_conditions_14 : en_Cx := ((en_KT, en_TY0, en_om0), en_FTX7, en_PTX7, [(82, false, 0, 0, 0, k_X7_isIn_32), (110, true, 13, 0, 0, k_X7_isThrown_18)], en_LTX7, en_LLX7, en_TTX7, en_ACX7)
def m_X7_conditions_14 : en_Mx := (k_X7_conditions_14, 1, 3, (0, 0), tb_X7_conditions, [])
set_option maxRecDepth 100000 in
theorem ck_X7_conditions_14 : en_all x_X7_conditions_14 m_X7_conditions_14 u_X7_conditions_14 21 = true := by decide +kernel
theorem ct_X7_conditions_14 {l : Launch} (hl : l.stackTraces = false) {cx cy : Int32} : en_Ctr l vwCl en_TY0 (en_Pc cx cy) en_om0 (en_Of cx cy) en_KT yX7_conditions (Cond.code yX7_conditions cX7_conditions 3 (some .int) :: en_cw) (en_rm 1 (0, 0)) 0 k_X7_conditions_14 :=
  en_main (X := x_X7_conditions_14) (M := m_X7_conditions_14) en_Pc_ok en_f32_ok en_f64_ok hl (by decide +kernel) ⟨en_FTX7_ok, en_PTX7_ok, en_ac (⟨yX7_isIn, RX7, cX7_isIn, 3, (some .boolean), by decide, ct_X7_isIn_32 hl, fun h => Bool.noConfusion h, fun _ => gc_RX7_82s⟩) (en_ac (⟨yX7_isThrown, RX7, cX7_isThrown, 3, (some .boolean), by decide, ct_X7_isThrown_18 hl, fun _ => ⟨gc_RX7_110v, by decide, _, rfl, rfl⟩, fun h => Bool.noConfusion h⟩) en_an), en_LTX7_ok, en_LLX7_ok, en_TTX7_ok hl, ⟨cw256, cw147⟩, en_ACX7_ok⟩ de_X7_conditions ck_X7_conditions_14
def k_X7_isIn_33 : en_K := (3, ([.inl (2, 2, 0, 0), .inl ((-1), (-1), 0, 0), .inl (3, 3, 0, 0)], []), [([.inl (2, 2, 0, 0), .inl ((-1), (-1), 0, 0), .inl (3, 3, 0, 0), .inl (1, 1, 0, 0)], [])], [], [], (0, 0), [])
def u_X7_isIn_33 : List en_U := []
def x_X7_isIn_33 : en_Cx := ((en_KT, en_TY0, en_om0), en_FTX7, en_PTX7, [], en_LTX7, en_LLX7, en_TTX7, en_ACX7)
def m_X7_isIn_33 : en_Mx := (k_X7_isIn_33, 0, 3, (0, 2), tb_X7_isIn, [])
set_option maxRecDepth 100000 in
theorem ck_X7_isIn_33 : en_all x_X7_isIn_33 m_X7_isIn_33 u_X7_isIn_33 12 = true := by decide +kernel
theorem ct_X7_isIn_33 {l : Launch} (hl : l.stackTraces = false) {cx cy : Int32} : en_Ctr l vwCl en_TY0 (en_Pc cx cy) en_om0 (en_Of cx cy) en_KT yX7_isIn (Cond.code yX7_isIn cX7_isIn 3 (some .boolean) :: en_cw) (en_rm 0 (0, 0)) 0 k_X7_isIn_33 :=
  en_main (X := x_X7_isIn_33) (M := m_X7_isIn_33) en_Pc_ok en_f32_ok en_f64_ok hl (by decide +kernel) ⟨en_FTX7_ok, en_PTX7_ok, en_an, en_LTX7_ok, en_LLX7_ok, en_TTX7_ok hl, ⟨cw256, cw147⟩, en_ACX7_ok⟩ de_X7_isIn ck_X7_isIn_33
def k_X7_conditions_15 : en_K := (2, ([.inr (.inl 20), .inl (2, 2, 0, 0), .inl ((-1), (-1), 0, 0)], [(0, 0, 29, 2, 0, 0)]), [([.inr (.inl 20), .inl (2, 2, 0, 0), .inl ((-1), (-1), 0, 0), .inl (0, 0, 0, 0)], [(0, 0, 29, 1, 0, 0), (0, 0, 30, 3, 0, 0)])], [(20, 29), (20, 30)], [20], (0, 0), [])
def u_X7_conditions_15 : List en_U := []
def x_X7_conditions_15 : en_Cx := ((en_KT, en_TY0, en_om0), en_FTX7, en_PTX7, [(82, false, 0, 0, 0, k_X7_isIn_33), (110, true, 13, 0, 0, k_X7_isThrown_18)], en_LTX7, en_LLX7, en_TTX7, en_ACX7)
def m_X7_conditions_15 : en_Mx := (k_X7_conditions_15, 1, 3, (0, 0), tb_X7_conditions, [])
set_option maxRecDepth 100000 in
theorem ck_X7_conditions_15 : en_all x_X7_conditions_15 m_X7_conditions_15 u_X7_conditions_15 21 = true := by decide +kernel
theorem ct_X7_conditions_15 {l : Launch} (hl : l.stackTraces = false) {cx cy : Int32} : en_Ctr l vwCl en_TY0 (en_Pc cx cy) en_om0 (en_Of cx cy) en_KT yX7_conditions (Cond.code yX7_conditions cX7_conditions 3 (some .int) :: en_cw) (en_rm 1 (0, 0)) 0 k_X7_conditions_15 :=
  en_main (X := x_X7_conditions_15) (M := m_X7_conditions_15) en_Pc_ok en_f32_ok en_f64_ok hl (by decide +kernel) ⟨en_FTX7_ok, en_PTX7_ok, en_ac (⟨yX7_isIn, RX7, cX7_isIn, 3, (some .boolean), by decide, ct_X7_isIn_33 hl, fun h => Bool.noConfusion h, fun _ => gc_RX7_82s⟩) (en_ac (⟨yX7_isThrown, RX7, cX7_isThrown, 3, (some .boolean), by decide, ct_X7_isThrown_18 hl, fun _ => ⟨gc_RX7_110v, by decide, _, rfl, rfl⟩, fun h => Bool.noConfusion h⟩) en_an), en_LTX7_ok, en_LLX7_ok, en_TTX7_ok hl, ⟨cw256, cw147⟩, en_ACX7_ok⟩ de_X7_conditions ck_X7_conditions_15
