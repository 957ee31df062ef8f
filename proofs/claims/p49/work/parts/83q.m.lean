def k_X6_conditions_34 : en_K := (2, ([.inr (.inl 0), .inl (4, 2147483647, 0, 0), .inl (2, 2, 0, 0)], [(0, 0, 8, 2, 0, 0)]), [], [], [], (1, 6), [0])
def u_X6_conditions_34 : List en_U := []
def x_X6_conditions_34 : en_Cx := ((en_KT, en_TY0, en_om0), en_FTX6, en_PTX6, [], en_LTX6, en_LLX6, en_TTX6, en_ACX6)
def m_X6_conditions_34 : en_Mx := (k_X6_conditions_34, 0, 3, (0, 0), tb_X6_conditions, [])
set_option maxRecDepth 100000 in
theorem ck_X6_conditions_34 : en_all x_X6_conditions_34 m_X6_conditions_34 u_X6_conditions_34 10 = true := by decide +kernel
theorem ct_X6_conditions_34 {l : Launch} (hl : l.stackTraces = false) {PP : Int32 → Int32 → Prop} (hPP : en_P0 PP) (Ω : Nat → en_H → va_W → Prop) : en_Ctr l vwCl en_TY0 PP en_om0 Ω en_KT yX6_conditions (Cond.code yX6_conditions cX6_conditions 3 (some .int) :: en_cw) (en_rm 0 (1, 6)) 0 k_X6_conditions_34 :=
  en_main (X := x_X6_conditions_34) (M := m_X6_conditions_34) hPP en_f32_ok en_f64_ok hl (by decide +kernel) ⟨en_FTX6_ok, en_PTX6_ok, en_an, en_LTX6_ok, en_LLX6_ok, en_TTX6_ok hl, ⟨cw256, cw147⟩, en_ACX6_ok⟩ de_X6_conditions ck_X6_conditions_34
def k_X6_conditions_35 : en_K := (2, ([.inr (.inl 0), .inl (4, 2147483647, 0, 0), .inl (3, 3, 0, 0)], [(0, 0, 8, 2, 0, 0)]), [], [], [], (1, 6), [0])
def u_X6_conditions_35 : List en_U := []
def x_X6_conditions_35 : en_Cx := ((en_KT, en_TY0, en_om0), en_FTX6, en_PTX6, [], en_LTX6, en_LLX6, en_TTX6, en_ACX6)
def m_X6_conditions_35 : en_Mx := (k_X6_conditions_35, 0, 3, (0, 0), tb_X6_conditions, [])
set_option maxRecDepth 100000 in
theorem ck_X6_conditions_35 : en_all x_X6_conditions_35 m_X6_conditions_35 u_X6_conditions_35 10 = true := by decide +kernel
theorem ct_X6_conditions_35 {l : Launch} (hl : l.stackTraces = false) {PP : Int32 → Int32 → Prop} (hPP : en_P0 PP) (Ω : Nat → en_H → va_W → Prop) : en_Ctr l vwCl en_TY0 PP en_om0 Ω en_KT yX6_conditions (Cond.code yX6_conditions cX6_conditions 3 (some .int) :: en_cw) (en_rm 0 (1, 6)) 0 k_X6_conditions_35 :=
  en_main (X := x_X6_conditions_35) (M := m_X6_conditions_35) hPP en_f32_ok en_f64_ok hl (by decide +kernel) ⟨en_FTX6_ok, en_PTX6_ok, en_an, en_LTX6_ok, en_LLX6_ok, en_TTX6_ok hl, ⟨cw256, cw147⟩, en_ACX6_ok⟩ de_X6_conditions ck_X6_conditions_35
