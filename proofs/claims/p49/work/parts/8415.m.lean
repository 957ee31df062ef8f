def k_X7_conditions_16 : en_K := (2, ([.inr (.inl 20), .inl (2, 2, 0, 0), .inl (0, 0, 0, 0)], [(0, 0, 29, 2, 0, 0)]), [([.inr (.inl 20), .inl (2, 2, 0, 0), .inl (0, 0, 0, 0), .inl (0, 0, 0, 0)], [(0, 0, 29, 1, 0, 0), (0, 0, 30, 3, 0, 0)])], [(20, 29), (20, 30)], [20], (0, 0), [])
def u_X7_conditions_16 : List en_U := []
def x_X7_conditions_16 : en_Cx := ((en_KT, en_TY0, en_om0), en_FTX7, en_PTX7, [(82, false, 0, 0, 0, k_X7_isIn_33), (110, true, 13, 0, 0, k_X7_isThrown_18)], en_LTX7, en_LLX7, en_TTX7, en_ACX7)
def m_X7_conditions_16 : en_Mx := (k_X7_conditions_16, 1, 3, (0, 0), tb_X7_conditions, [])
set_option maxRecDepth 100000 in
theorem ck_X7_conditions_16 : en_all x_X7_conditions_16 m_X7_conditions_16 u_X7_conditions_16 21 = true := by decide +kernel
theorem ct_X7_conditions_16 {l : Launch} (hl : l.stackTraces = false) {cx cy : Int32} : en_Ctr l vwCl en_TY0 (en_Pc cx cy) en_om0 (en_Of cx cy) en_KT yX7_conditions (Cond.code yX7_conditions cX7_conditions 3 (some .int) :: en_cw) (en_rm 1 (0, 0)) 0 k_X7_conditions_16 :=
  en_main (X := x_X7_conditions_16) (M := m_X7_conditions_16) en_Pc_ok en_f32_ok en_f64_ok hl (by decide +kernel) ⟨en_FTX7_ok, en_PTX7_ok, en_ac (⟨yX7_isIn, RX7, cX7_isIn, 3, (some .boolean), by decide, ct_X7_isIn_33 hl, fun h => Bool.noConfusion h, fun _ => gc_RX7_82s⟩) (en_ac (⟨yX7_isThrown, RX7, cX7_isThrown, 3, (some .boolean), by decide, ct_X7_isThrown_18 hl, fun _ => ⟨gc_RX7_110v, by decide, _, rfl, rfl⟩, fun h => Bool.noConfusion h⟩) en_an), en_LTX7_ok, en_LLX7_ok, en_TTX7_ok hl, ⟨cw256, cw147⟩, en_ACX7_ok⟩ de_X7_conditions ck_X7_conditions_16
def k_X7_conditions_17 : en_K := (2, ([.inr (.inl 20), .inl (2, 2, 0, 0), .inl (1, 1, 0, 0)], [(0, 0, 29, 2, 0, 0)]), [([.inr (.inl 20), .inl (2, 2, 0, 0), .inl (1, 1, 0, 0), .inl (0, 0, 0, 0)], [(0, 0, 29, 1, 0, 0), (0, 0, 30, 3, 0, 0)])], [(20, 29), (20, 30)], [20], (0, 0), [])
def u_X7_conditions_17 : List en_U := []
def x_X7_conditions_17 : en_Cx := ((en_KT, en_TY0, en_om0), en_FTX7, en_PTX7, [(82, false, 0, 0, 0, k_X7_isIn_33), (110, true, 13, 0, 0, k_X7_isThrown_18)], en_LTX7, en_LLX7, en_TTX7, en_ACX7)
def m_X7_conditions_17 : en_Mx := (k_X7_conditions_17, 1, 3, (0, 0), tb_X7_conditions, [])
set_option maxRecDepth 100000 in
theorem ck_X7_conditions_17 : en_all x_X7_conditions_17 m_X7_conditions_17 u_X7_conditions_17 21 = true := by decide +kernel
theorem ct_X7_conditions_17 {l : Launch} (hl : l.stackTraces = false) {cx cy : Int32} : en_Ctr l vwCl en_TY0 (en_Pc cx cy) en_om0 (en_Of cx cy) en_KT yX7_conditions (Cond.code yX7_conditions cX7_conditions 3 (some .int) :: en_cw) (en_rm 1 (0, 0)) 0 k_X7_conditions_17 :=
  en_main (X := x_X7_conditions_17) (M := m_X7_conditions_17) en_Pc_ok en_f32_ok en_f64_ok hl (by decide +kernel) ⟨en_FTX7_ok, en_PTX7_ok, en_ac (⟨yX7_isIn, RX7, cX7_isIn, 3, (some .boolean), by decide, ct_X7_isIn_33 hl, fun h => Bool.noConfusion h, fun _ => gc_RX7_82s⟩) (en_ac (⟨yX7_isThrown, RX7, cX7_isThrown, 3, (some .boolean), by decide, ct_X7_isThrown_18 hl, fun _ => ⟨gc_RX7_110v, by decide, _, rfl, rfl⟩, fun h => Bool.noConfusion h⟩) en_an), en_LTX7_ok, en_LLX7_ok, en_TTX7_ok hl, ⟨cw256, cw147⟩, en_ACX7_ok⟩ de_X7_conditions ck_X7_conditions_17
def k_X7_conditions_18 : en_K := (2, ([.inr (.inl 20), .inl (2, 2, 0, 0), .inl (2, 2, 0, 0)], [(0, 0, 29, 2, 0, 0)]), [([.inr (.inl 20), .inl (2, 2, 0, 0), .inl (2, 2, 0, 0), .inl (0, 0, 0, 0)], [(0, 0, 29, 1, 0, 0), (0, 0, 30, 3, 0, 0)])], [(20, 29), (20, 30)], [20], (0, 0), [])
def u_X7_conditions_18 : List en_U := []
def x_X7_conditions_18 : en_Cx := ((en_KT, en_TY0, en_om0), en_FTX7, en_PTX7, [(82, false, 0, 0, 0, k_X7_isIn_33), (110, true, 13, 0, 0, k_X7_isThrown_18)], en_LTX7, en_LLX7, en_TTX7, en_ACX7)
def m_X7_conditions_18 : en_Mx := (k_X7_conditions_18, 1, 3, (0, 0), tb_X7_conditions, [])
set_option maxRecDepth 100000 in
theorem ck_X7_conditions_18 : en_all x_X7_conditions_18 m_X7_conditions_18 u_X7_conditions_18 21 = true := by decide +kernel
theorem ct_X7_conditions_18 {l : Launch} (hl : l.stackTraces = false) {cx cy : Int32} : en_Ctr l vwCl en_TY0 (en_Pc cx cy) en_om0 (en_Of cx cy) en_KT yX7_conditions (Cond.code yX7_conditions cX7_conditions 3 (some .int) :: en_cw) (en_rm 1 (0, 0)) 0 k_X7_conditions_18 :=
  en_main (X := x_X7_conditions_18) (M := m_X7_conditions_18) en_Pc_ok en_f32_ok en_f64_ok hl (by decide +kernel) ⟨en_FTX7_ok, en_PTX7_ok, en_ac (⟨yX7_isIn, RX7, cX7_isIn, 3, (some .boolean), by decide, ct_X7_isIn_33 hl, fun h => Bool.noConfusion h, fun _ => gc_RX7_82s⟩) (en_ac (⟨yX7_isThrown, RX7, cX7_isThrown, 3, (some .boolean), by decide, ct_X7_isThrown_18 hl, fun _ => ⟨gc_RX7_110v, by decide, _, rfl, rfl⟩, fun h => Bool.noConfusion h⟩) en_an), en_LTX7_ok, en_LLX7_ok, en_TTX7_ok hl, ⟨cw256, cw147⟩, en_ACX7_ok⟩ de_X7_conditions ck_X7_conditions_18
def k_X7_conditions_19 : en_K := (2, ([.inr (.inl 20), .inl (2, 2, 0, 0), .inl (3, 3, 0, 0)], [(0, 0, 29, 2, 0, 0)]), [([.inr (.inl 20), .inl (2, 2, 0, 0), .inl (3, 3, 0, 0), .inl (0, 0, 0, 0)], [(0, 0, 29, 1, 0, 0), (0, 0, 30, 3, 0, 0)])], [(20, 29), (20, 30)], [20], (0, 0), [])
def u_X7_conditions_19 : List en_U := []
def x_X7_conditions_19 : en_Cx := ((en_KT, en_TY0, en_om0), en_FTX7, en_PTX7, [(82, false, 0, 0, 0, k_X7_isIn_33), (110, true, 13, 0, 0, k_X7_isThrown_18)], en_LTX7, en_LLX7, en_TTX7, en_ACX7)
def m_X7_conditions_19 : en_Mx := (k_X7_conditions_19, 1, 3, (0, 0), tb_X7_conditions, [])
set_option maxRecDepth 100000 in
theorem ck_X7_conditions_19 : en_all x_X7_conditions_19 m_X7_conditions_19 u_X7_conditions_19 21 = true := by decide +kernel
theorem ct_X7_conditions_19 {l : Launch} (hl : l.stackTraces = false) {cx cy : Int32} : en_Ctr l vwCl en_TY0 (en_Pc cx cy) en_om0 (en_Of cx cy) en_KT yX7_conditions (Cond.code yX7_conditions cX7_conditions 3 (some .int) :: en_cw) (en_rm 1 (0, 0)) 0 k_X7_conditions_19 :=
  en_main (X := x_X7_conditions_19) (M := m_X7_conditions_19) en_Pc_ok en_f32_ok en_f64_ok hl (by decide +kernel) ⟨en_FTX7_ok, en_PTX7_ok, en_ac (⟨yX7_isIn, RX7, cX7_isIn, 3, (some .boolean), by decide, ct_X7_isIn_33 hl, fun h => Bool.noConfusion h, fun _ => gc_RX7_82s⟩) (en_ac (⟨yX7_isThrown, RX7, cX7_isThrown, 3, (some .boolean), by decide, ct_X7_isThrown_18 hl, fun _ => ⟨gc_RX7_110v, by decide, _, rfl, rfl⟩, fun h => Bool.noConfusion h⟩) en_an), en_LTX7_ok, en_LLX7_ok, en_TTX7_ok hl, ⟨cw256, cw147⟩, en_ACX7_ok⟩ de_X7_conditions ck_X7_conditions_19
def k_X7_isIn_34 : en_K := (3, ([.inl (3, 3, 0, 0), .inl ((-1), (-1), 0, 0), .inl (3, 3, 0, 0)], []), [([.inl (3, 3, 0, 0), .inl ((-1), (-1), 0, 0), .inl (3, 3, 0, 0), .inl (1, 1, 0, 0)], [])], [], [], (0, 0), [])
def u_X7_isIn_34 : List en_U := []
def x_X7_isIn_34 : en_Cx := ((en_KT, en_TY0, en_om0), en_FTX7, en_PTX7, [], en_LTX7, en_LLX7, en_TTX7, en_ACX7)
def m_X7_isIn_34 : en_Mx := (k_X7_isIn_34, 0, 3, (0, 2), tb_X7_isIn, [])
set_option maxRecDepth 100000 in
theorem ck_X7_isIn_34 : en_all x_X7_isIn_34 m_X7_isIn_34 u_X7_isIn_34 12 = true := by decide +kernel
theorem ct_X7_isIn_34 {l : Launch} (hl : l.stackTraces = false) {cx cy : Int32} : en_Ctr l vwCl en_TY0 (en_Pc cx cy) en_om0 (en_Of cx cy) en_KT yX7_isIn (Cond.code yX7_isIn cX7_isIn 3 (some .boolean) :: en_cw) (en_rm 0 (0, 0)) 0 k_X7_isIn_34 :=
  en_main (X := x_X7_isIn_34) (M := m_X7_isIn_34) en_Pc_ok en_f32_ok en_f64_ok hl (by decide +kernel) ⟨en_FTX7_ok, en_PTX7_ok, en_an, en_LTX7_ok, en_LLX7_ok, en_TTX7_ok hl, ⟨cw256, cw147⟩, en_ACX7_ok⟩ de_X7_isIn ck_X7_isIn_34
def k_X7_conditions_20 : en_K := (2, ([.inr (.inl 20), .inl (3, 3, 0, 0), .inl ((-1), (-1), 0, 0)], [(0, 0, 29, 2, 0, 0)]), [([.inr (.inl 20), .inl (3, 3, 0, 0), .inl ((-1), (-1), 0, 0), .inl (0, 0, 0, 0)], [(0, 0, 29, 1, 0, 0), (0, 0, 30, 3, 0, 0)])], [(20, 29), (20, 30)], [20], (0, 0), [])
def u_X7_conditions_20 : List en_U := []
def x_X7_conditions_20 : en_Cx := ((en_KT, en_TY0, en_om0), en_FTX7, en_PTX7, [(82, false, 0, 0, 0, k_X7_isIn_34), (110, true, 13, 0, 0, k_X7_isThrown_18)], en_LTX7, en_LLX7, en_TTX7, en_ACX7)
def m_X7_conditions_20 : en_Mx := (k_X7_conditions_20, 1, 3, (0, 0), tb_X7_conditions, [])
set_option maxRecDepth 100000 in
theorem ck_X7_conditions_20 : en_all x_X7_conditions_20 m_X7_conditions_20 u_X7_conditions_20 21 = true := by decide +kernel
theorem ct_X7_conditions_20 {l : Launch} (hl : l.stackTraces = false) {cx cy : Int32} : en_Ctr l vwCl en_TY0 (en_Pc cx cy) en_om0 (en_Of cx cy) en_KT yX7_conditions (Cond.code yX7_conditions cX7_conditions 3 (some .int) :: en_cw) (en_rm 1 (0, 0)) 0 k_X7_conditions_20 :=
  en_main (X := x_X7_conditions_20) (M := m_X7_conditions_20) en_Pc_ok en_f32_ok en_f64_ok hl (by decide +kernel) ⟨en_FTX7_ok, en_PTX7_ok, en_ac (⟨yX7_isIn, RX7, cX7_isIn, 3, (some .boolean), by decide, ct_X7_isIn_34 hl, fun h => Bool.noConfusion h, fun _ => gc_RX7_82s⟩) (en_ac (⟨yX7_isThrown, RX7, cX7_isThrown, 3, (some .boolean), by decide, ct_X7_isThrown_18 hl, fun _ => ⟨gc_RX7_110v, by decide, _, rfl, rfl⟩, fun h => Bool.noConfusion h⟩) en_an), en_LTX7_ok, en_LLX7_ok, en_TTX7_ok hl, ⟨cw256, cw147⟩, en_ACX7_ok⟩ de_X7_conditions ck_X7_conditions_20
def k_X7_conditions_21 : en_K := (2, ([.inr (.inl 20), .inl (3, 3, 0, 0), .inl (0, 0, 0, 0)], [(0, 0, 29, 2, 0, 0)]), [([.inr (.inl 20), .inl (3, 3, 0, 0), .inl (0, 0, 0, 0), .inl (0, 0, 0, 0)], [(0, 0, 29, 1, 0, 0), (0, 0, 30, 3, 0, 0)])], [(20, 29), (20, 30)], [20], (0, 0), [])
def u_X7_conditions_21 : List en_U := []
def x_X7_conditions_21 : en_Cx := ((en_KT, en_TY0, en_om0), en_FTX7, en_PTX7, [(82, false, 0, 0, 0, k_X7_isIn_34), (110, true, 13, 0, 0, k_X7_isThrown_18)], en_LTX7, en_LLX7, en_TTX7, en_ACX7)
def m_X7_conditions_21 : en_Mx := (k_X7_conditions_21, 1, 3, (0, 0), tb_X7_conditions, [])
set_option maxRecDepth 100000 in
theorem ck_X7_conditions_21 : en_all x_X7_conditions_21 m_X7_conditions_21 u_X7_conditions_21 21 = true := by decide +kernel
theorem ct_X7_conditions_21 {l : Launch} (hl : l.stackTraces = false) {cx cy : Int32} : en_Ctr l vwCl en_TY0 (en_Pc cx cy) en_om0 (en_Of cx cy) en_KT yX7_conditions (Cond.code yX7_conditions cX7_conditions 3 (some .int) :: en_cw) (en_rm 1 (0, 0)) 0 k_X7_conditions_21 :=
  en_main (X := x_X7_conditions_21) (M := m_X7_conditions_21) en_Pc_ok en_f32_ok en_f64_ok hl (by decide +kernel) ⟨en_FTX7_ok, en_PTX7_ok, en_ac (⟨yX7_isIn, RX7, cX7_isIn, 3, (some .boolean), by decide, ct_X7_isIn_34 hl, fun h => Bool.noConfusion h, fun _ => gc_RX7_82s⟩) (en_ac (⟨yX7_isThrown, RX7, cX7_isThrown, 3, (some .boolean), by decide, ct_X7_isThrown_18 hl, fun _ => ⟨gc_RX7_110v, by decide, _, rfl, rfl⟩, fun h => Bool.noConfusion h⟩) en_an), en_LTX7_ok, en_LLX7_ok, en_TTX7_ok hl, ⟨cw256, cw147⟩, en_ACX7_ok⟩ de_X7_conditions ck_X7_conditions_21
def k_X7_conditions_22 : en_K := (2, ([.inr (.inl 20), .inl (3, 3, 0, 0), .inl (1, 1, 0, 0)], [(0, 0, 29, 2, 0, 0)]), [([.inr (.inl 20), .inl (3, 3, 0, 0), .inl (1, 1, 0, 0), .inl (0, 0, 0, 0)], [(0, 0, 29, 1, 0, 0), (0, 0, 30, 3, 0, 0)])], [(20, 29), (20, 30)], [20], (0, 0), [])
def u_X7_conditions_22 : List en_U := []
def x_X7_conditions_22 : en_Cx := ((en_KT, en_TY0, en_om0), en_FTX7, en_PTX7, [(82, false, 0, 0, 0, k_X7_isIn_34), (110, true, 13, 0, 0, k_X7_isThrown_18)], en_LTX7, en_LLX7, en_TTX7, en_ACX7)
def m_X7_conditions_22 : en_Mx := (k_X7_conditions_22, 1, 3, (0, 0), tb_X7_conditions, [])
set_option maxRecDepth 100000 in
theorem ck_X7_conditions_22 : en_all x_X7_conditions_22 m_X7_conditions_22 u_X7_conditions_22 21 = true := by decide +kernel
theorem ct_X7_conditions_22 {l : Launch} (hl : l.stackTraces = false) {cx cy : Int32} : en_Ctr l vwCl en_TY0 (en_Pc cx cy) en_om0 (en_Of cx cy) en_KT yX7_conditions (Cond.code yX7_conditions cX7_conditions 3 (some .int) :: en_cw) (en_rm 1 (0, 0)) 0 k_X7_conditions_22 :=
  en_main (X := x_X7_conditions_22) (M := m_X7_conditions_22) en_Pc_ok en_f32_ok en_f64_ok hl (by decide +kernel) ⟨en_FTX7_ok, en_PTX7_ok, en_ac (⟨yX7_isIn, RX7, cX7_isIn, 3, (some .boolean), by decide, ct_X7_isIn_34 hl, fun h => Bool.noConfusion h, fun _ => gc_RX7_82s⟩) (en_ac (⟨yX7_isThrown, RX7, cX7_isThrown, 3, (some .boolean), by decide, ct_X7_isThrown_18 hl, fun _ => ⟨gc_RX7_110v, by decide, _, rfl, rfl⟩, fun h => Bool.noConfusion h⟩) en_an), en_LTX7_ok, en_LLX7_ok, en_TTX7_ok hl, ⟨cw256, cw147⟩, en_ACX7_ok⟩ de_X7_conditions ck_X7_conditions_22
def k_X7_conditions_23 : en_K := (2, ([.inr (.inl 20), .inl (3, 3, 0, 0), .inl (2, 2, 0, 0)], [(0, 0, 29, 2, 0, 0)]), [([.inr (.inl 20), .inl (3, 3, 0, 0), .inl (2, 2, 0, 0), .inl (0, 0, 0, 0)], [(0, 0, 29, 1, 0, 0), (0, 0, 30, 3, 0, 0)])], [(20, 29), (20, 30)], [20], (0, 0), [])
def u_X7_conditions_23 : List en_U := []
def x_X7_conditions_23 : en_Cx := ((en_KT, en_TY0, en_om0), en_FTX7, en_PTX7, [(82, false, 0, 0, 0, k_X7_isIn_34), (110, true, 13, 0, 0, k_X7_isThrown_18)], en_LTX7, en_LLX7, en_TTX7, en_ACX7)
def m_X7_conditions_23 : en_Mx := (k_X7_conditions_23, 1, 3, (0, 0), tb_X7_conditions, [])
set_option maxRecDepth 100000 in
theorem ck_X7_conditions_23 : en_all x_X7_conditions_23 m_X7_conditions_23 u_X7_conditions_23 21 = true := by decide +kernel
theorem ct_X7_conditions_23 {l : Launch} (hl : l.stackTraces = false) {cx cy : Int32} : en_Ctr l vwCl en_TY0 (en_Pc cx cy) en_om0 (en_Of cx cy) en_KT yX7_conditions (Cond.code yX7_conditions cX7_conditions 3 (some .int) :: en_cw) (en_rm 1 (0, 0)) 0 k_X7_conditions_23 :=
  en_main (X := x_X7_conditions_23) (M := m_X7_conditions_23) en_Pc_ok en_f32_ok en_f64_ok hl (by decide +kernel) ⟨en_FTX7_ok, en_PTX7_ok, en_ac (⟨yX7_isIn, RX7, cX7_isIn, 3, (some .boolean), by decide, ct_X7_isIn_34 hl, fun h => Bool.noConfusion h, fun _ => gc_RX7_82s⟩) (en_ac (⟨yX7_isThrown, RX7, cX7_isThrown, 3, (some .boolean), by decide, ct_X7_isThrown_18 hl, fun _ => ⟨gc_RX7_110v, by decide, _, rfl, rfl⟩, fun h => Bool.noConfusion h⟩) en_an), en_LTX7_ok, en_LLX7_ok, en_TTX7_ok hl, ⟨cw256, cw147⟩, en_ACX7_ok⟩ de_X7_conditions ck_X7_conditions_23
def k_X7_conditions_24 : en_K := (2, ([.inr (.inl 20), .inl (3, 3, 0, 0), .inl (3, 3, 0, 0)], [(0, 0, 29, 2, 0, 0)]), [([.inr (.inl 20), .inl (3, 3, 0, 0), .inl (3, 3, 0, 0), .inl (0, 0, 0, 0)], [(0, 0, 29, 1, 0, 0), (0, 0, 30, 3, 0, 0)])], [(20, 29), (20, 30)], [20], (0, 0), [])
def u_X7_conditions_24 : List en_U := []
def x_X7_conditions_24 : en_Cx := ((en_KT, en_TY0, en_om0), en_FTX7, en_PTX7, [(82, false, 0, 0, 0, k_X7_isIn_34), (110, true, 13, 0, 0, k_X7_isThrown_18)], en_LTX7, en_LLX7, en_TTX7, en_ACX7)
def m_X7_conditions_24 : en_Mx := (k_X7_conditions_24, 1, 3, (0, 0), tb_X7_conditions, [])
set_option maxRecDepth 100000 in
theorem ck_X7_conditions_24 : en_all x_X7_conditions_24 m_X7_conditions_24 u_X7_conditions_24 21 = true := by decide +kernel
theorem ct_X7_conditions_24 {l : Launch} (hl : l.stackTraces = false) {cx cy : Int32} : en_Ctr l vwCl en_TY0 (en_Pc cx cy) en_om0 (en_Of cx cy) en_KT yX7_conditions (Cond.code yX7_conditions cX7_conditions 3 (some .int) :: en_cw) (en_rm 1 (0, 0)) 0 k_X7_conditions_24 :=
  en_main (X := x_X7_conditions_24) (M := m_X7_conditions_24) en_Pc_ok en_f32_ok en_f64_ok hl (by decide +kernel) ⟨en_FTX7_ok, en_PTX7_ok, en_ac (⟨yX7_isIn, RX7, cX7_isIn, 3, (some .boolean), by decide, ct_X7_isIn_34 hl, fun h => Bool.noConfusion h, fun _ => gc_RX7_82s⟩) (en_ac (⟨yX7_isThrown, RX7, cX7_isThrown, 3, (some .boolean), by decide, ct_X7_isThrown_18 hl, fun _ => ⟨gc_RX7_110v, by decide, _, rfl, rfl⟩, fun h => Bool.noConfusion h⟩) en_an), en_LTX7_ok, en_LLX7_ok, en_TTX7_ok hl, ⟨cw256, cw147⟩, en_ACX7_ok⟩ de_X7_conditions ck_X7_conditions_24
def k_X7_isIn_35 : en_K := (3, ([.inl ((-2147483648), (-2), 0, 0), .inl ((-1), (-1), 0, 0), .inl (3, 3, 0, 0)], []), [([.inl ((-2147483648), (-2), 0, 0), .inl ((-1), (-1), 0, 0), .inl (3, 3, 0, 0), .inl (0, 0, 0, 0)], [])], [], [], (0, 0), [])
def u_X7_isIn_35 : List en_U := []
def x_X7_isIn_35 : en_Cx := ((en_KT, en_TY0, en_om0), en_FTX7, en_PTX7, [], en_LTX7, en_LLX7, en_TTX7, en_ACX7)
def m_X7_isIn_35 : en_Mx := (k_X7_isIn_35, 0, 3, (0, 2), tb_X7_isIn, [])
set_option maxRecDepth 100000 in
theorem ck_X7_isIn_35 : en_all x_X7_isIn_35 m_X7_isIn_35 u_X7_isIn_35 8 = true := by decide +kernel
theorem ct_X7_isIn_35 {l : Launch} (hl : l.stackTraces = false) {cx cy : Int32} : en_Ctr l vwCl en_TY0 (en_Pc cx cy) en_om0 (en_Of cx cy) en_KT yX7_isIn (Cond.code yX7_isIn cX7_isIn 3 (some .boolean) :: en_cw) (en_rm 0 (0, 0)) 0 k_X7_isIn_35 :=
  en_main (X := x_X7_isIn_35) (M := m_X7_isIn_35) en_Pc_ok en_f32_ok en_f64_ok hl (by decide +kernel) ⟨en_FTX7_ok, en_PTX7_ok, en_an, en_LTX7_ok, en_LLX7_ok, en_TTX7_ok hl, ⟨cw256, cw147⟩, en_ACX7_ok⟩ de_X7_isIn ck_X7_isIn_35
def k_X7_isThrown_19 : en_K := (3, ([.inr (.inl 20), .inl (1, 1, 0, 0), .inl (1, 1, 0, 0)], []), [([.inr (.inl 20), .inl (1, 1, 0, 0), .inl (1, 1, 0, 0), .inl (1, 1, 0, 0)], [(0, 0, 30, 2, 0, 0), (6, 1, 0, 0, 0, 0)])], [(20, 30)], [20], (0, 0), [])
def u_X7_isThrown_19 : List en_U := []
def x_X7_isThrown_19 : en_Cx := ((en_KT, en_TY0, en_om0), en_FTX7, en_PTX7, [], en_LTX7, en_LLX7, en_TTX7, en_ACX7)
def m_X7_isThrown_19 : en_Mx := (k_X7_isThrown_19, 0, 3, (0, 2), tb_X7_isThrown, [])
set_option maxRecDepth 100000 in
theorem ck_X7_isThrown_19 : en_all x_X7_isThrown_19 m_X7_isThrown_19 u_X7_isThrown_19 11 = true := by decide +kernel
theorem ct_X7_isThrown_19 {l : Launch} (hl : l.stackTraces = false) {cx cy : Int32} : en_Ctr l vwCl en_TY0 (en_Pc cx cy) en_om0 (en_Of cx cy) en_KT yX7_isThrown (Cond.code yX7_isThrown cX7_isThrown 3 (some .boolean) :: en_cw) (en_rm 0 (0, 0)) 0 k_X7_isThrown_19 :=
  en_main (X := x_X7_isThrown_19) (M := m_X7_isThrown_19) en_Pc_ok en_f32_ok en_f64_ok hl (by decide +kernel) ⟨en_FTX7_ok, en_PTX7_ok, en_an, en_LTX7_ok, en_LLX7_ok, en_TTX7_ok hl, ⟨cw256, cw147⟩, en_ACX7_ok⟩ de_X7_isThrown ck_X7_isThrown_19
def k_X7_conditions_25 : en_K := (2, ([.inr (.inl 20), .inl ((-2147483648), (-2), 0, 0), .inl ((-1), (-1), 0, 0)], [(0, 0, 29, 2, 0, 0)]), [([.inr (.inl 20), .inl ((-2147483648), (-2), 0, 0), .inl (0, 0, 0, 0), .inl ((-1), (-1), 0, 0), .inl (1, 1, 0, 0)], [(0, 0, 29, 3, 0, 0), (0, 0, 30, 4, 0, 0)])], [(20, 30)], [20], (0, 0), [])
def u_X7_conditions_25 : List en_U := []
def x_X7_conditions_25 : en_Cx := ((en_KT, en_TY0, en_om0), en_FTX7, en_PTX7, [(82, false, 0, 0, 0, k_X7_isIn_35), (110, true, 13, 0, 0, k_X7_isThrown_19)], en_LTX7, en_LLX7, en_TTX7, en_ACX7)
def m_X7_conditions_25 : en_Mx := (k_X7_conditions_25, 1, 3, (0, 0), tb_X7_conditions, [])
set_option maxRecDepth 100000 in
theorem ck_X7_conditions_25 : en_all x_X7_conditions_25 m_X7_conditions_25 u_X7_conditions_25 16 = true := by decide +kernel
theorem ct_X7_conditions_25 {l : Launch} (hl : l.stackTraces = false) {cx cy : Int32} : en_Ctr l vwCl en_TY0 (en_Pc cx cy) en_om0 (en_Of cx cy) en_KT yX7_conditions (Cond.code yX7_conditions cX7_conditions 3 (some .int) :: en_cw) (en_rm 1 (0, 0)) 0 k_X7_conditions_25 :=
  en_main (X := x_X7_conditions_25) (M := m_X7_conditions_25) en_Pc_ok en_f32_ok en_f64_ok hl (by decide +kernel) ⟨en_FTX7_ok, en_PTX7_ok, en_ac (⟨yX7_isIn, RX7, cX7_isIn, 3, (some .boolean), by decide, ct_X7_isIn_35 hl, fun h => Bool.noConfusion h, fun _ => gc_RX7_82s⟩) (en_ac (⟨yX7_isThrown, RX7, cX7_isThrown, 3, (some .boolean), by decide, ct_X7_isThrown_19 hl, fun _ => ⟨gc_RX7_110v, by decide, _, rfl, rfl⟩, fun h => Bool.noConfusion h⟩) en_an), en_LTX7_ok, en_LLX7_ok, en_TTX7_ok hl, ⟨cw256, cw147⟩, en_ACX7_ok⟩ de_X7_conditions ck_X7_conditions_25
def k_X7_conditions_26 : en_K := (2, ([.inr (.inl 20), .inl ((-2147483648), (-2), 0, 0), .inl (0, 0, 0, 0)], [(0, 0, 29, 2, 0, 0)]), [([.inr (.inl 20), .inl ((-2147483648), (-2), 0, 0), .inl (0, 0, 0, 0), .inl (0, 0, 0, 0), .inl (1, 1, 0, 0)], [(0, 0, 29, 3, 0, 0), (0, 0, 30, 4, 0, 0)])], [(20, 30)], [20], (0, 0), [])
def u_X7_conditions_26 : List en_U := []
def x_X7_conditions_26 : en_Cx := ((en_KT, en_TY0, en_om0), en_FTX7, en_PTX7, [(82, false, 0, 0, 0, k_X7_isIn_35), (110, true, 13, 0, 0, k_X7_isThrown_19)], en_LTX7, en_LLX7, en_TTX7, en_ACX7)
def m_X7_conditions_26 : en_Mx := (k_X7_conditions_26, 1, 3, (0, 0), tb_X7_conditions, [])
set_option maxRecDepth 100000 in
theorem ck_X7_conditions_26 : en_all x_X7_conditions_26 m_X7_conditions_26 u_X7_conditions_26 16 = true := by decide +kernel
theorem ct_X7_conditions_26 {l : Launch} (hl : l.stackTraces = false) {cx cy : Int32} : en_Ctr l vwCl en_TY0 (en_Pc cx cy) en_om0 (en_Of cx cy) en_KT yX7_conditions (Cond.code yX7_conditions cX7_conditions 3 (some .int) :: en_cw) (en_rm 1 (0, 0)) 0 k_X7_conditions_26 :=
  en_main (X := x_X7_conditions_26) (M := m_X7_conditions_26) en_Pc_ok en_f32_ok en_f64_ok hl (by decide +kernel) ⟨en_FTX7_ok, en_PTX7_ok, en_ac (⟨yX7_isIn, RX7, cX7_isIn, 3, (some .boolean), by decide, ct_X7_isIn_35 hl, fun h => Bool.noConfusion h, fun _ => gc_RX7_82s⟩) (en_ac (⟨yX7_isThrown, RX7, cX7_isThrown, 3, (some .boolean), by decide, ct_X7_isThrown_19 hl, fun _ => ⟨gc_RX7_110v, by decide, _, rfl, rfl⟩, fun h => Bool.noConfusion h⟩) en_an), en_LTX7_ok, en_LLX7_ok, en_TTX7_ok hl, ⟨cw256, cw147⟩, en_ACX7_ok⟩ de_X7_conditions ck_X7_conditions_26
