def k_X6_conditions_22 : en_K := (2, ([.inr (.inl 0), .inl (3, 3, 0, 0), .inl (0, 0, 0, 0)], [(0, 0, 8, 2, 0, 0)]), [([.inr (.inl 0), .inl (3, 3, 0, 0), .inl (0, 0, 0, 0)], [(0, 0, 8, 1, 0, 0)])], [(0, 8)], [0], (0, 0), [])
def u_X6_conditions_22 : List en_U := []
def x_X6_conditions_22 : en_Cx := ((en_KT, en_TY0, en_om0), en_FTX6, en_PTX6, [], en_LTX6, en_LLX6, en_TTX6, en_ACX6)
def m_X6_conditions_22 : en_Mx := (k_X6_conditions_22, 0, 3, (0, 0), tb_X6_conditions, [])
set_option maxRecDepth 100000 in
theorem ck_X6_conditions_22 : en_all x_X6_conditions_22 m_X6_conditions_22 u_X6_conditions_22 17 = true := by decide +kernel
theorem ct_X6_conditions_22 {l : Launch} (hl : l.stackTraces = false) {PP : Int32 → Int32 → Prop} (hPP : en_P0 PP) (Ω : Nat → en_H → va_W → Prop) : en_Ctr l vwCl en_TY0 PP en_om0 Ω en_KT yX6_conditions (Cond.code yX6_conditions cX6_conditions 3 (some .int) :: en_cw) (en_rm 0 (0, 0)) 0 k_X6_conditions_22 :=
  en_main (X := x_X6_conditions_22) (M := m_X6_conditions_22) hPP en_f32_ok en_f64_ok hl (by decide +kernel) ⟨en_FTX6_ok, en_PTX6_ok, en_an, en_LTX6_ok, en_LLX6_ok, en_TTX6_ok hl, ⟨cw256, cw147⟩, en_ACX6_ok⟩ de_X6_conditions ck_X6_conditions_22
def k_X6_conditions_23 : en_K := (2, ([.inr (.inl 0), .inl (3, 3, 0, 0), .inl (1, 1, 0, 0)], [(0, 0, 8, 2, 0, 0)]), [([.inr (.inl 0), .inl (3, 3, 0, 0), .inl (1, 1, 0, 0)], [(0, 0, 8, 1, 0, 0)])], [(0, 8)], [0], (0, 0), [])
def u_X6_conditions_23 : List en_U := []
def x_X6_conditions_23 : en_Cx := ((en_KT, en_TY0, en_om0), en_FTX6, en_PTX6, [], en_LTX6, en_LLX6, en_TTX6, en_ACX6)
def m_X6_conditions_23 : en_Mx := (k_X6_conditions_23, 0, 3, (0, 0), tb_X6_conditions, [])
set_option maxRecDepth 100000 in
theorem ck_X6_conditions_23 : en_all x_X6_conditions_23 m_X6_conditions_23 u_X6_conditions_23 17 = true := by decide +kernel
theorem ct_X6_conditions_23 {l : Launch} (hl : l.stackTraces = false) {PP : Int32 → Int32 → Prop} (hPP : en_P0 PP) (Ω : Nat → en_H → va_W → Prop) : en_Ctr l vwCl en_TY0 PP en_om0 Ω en_KT yX6_conditions (Cond.code yX6_conditions cX6_conditions 3 (some .int) :: en_cw) (en_rm 0 (0, 0)) 0 k_X6_conditions_23 :=
  en_main (X := x_X6_conditions_23) (M := m_X6_conditions_23) hPP en_f32_ok en_f64_ok hl (by decide +kernel) ⟨en_FTX6_ok, en_PTX6_ok, en_an, en_LTX6_ok, en_LLX6_ok, en_TTX6_ok hl, ⟨cw256, cw147⟩, en_ACX6_ok⟩ de_X6_conditions ck_X6_conditions_23
def k_X6_conditions_24 : en_K := (2, ([.inr (.inl 0), .inl (3, 3, 0, 0), .inl (2, 2, 0, 0)], [(0, 0, 8, 2, 0, 0)]), [([.inr (.inl 0), .inl (3, 3, 0, 0), .inl (2, 2, 0, 0)], [(0, 0, 8, 1, 0, 0)])], [(0, 8)], [0], (0, 0), [])
def u_X6_conditions_24 : List en_U := []
def x_X6_conditions_24 : en_Cx := ((en_KT, en_TY0, en_om0), en_FTX6, en_PTX6, [], en_LTX6, en_LLX6, en_TTX6, en_ACX6)
def m_X6_conditions_24 : en_Mx := (k_X6_conditions_24, 0, 3, (0, 0), tb_X6_conditions, [])
set_option maxRecDepth 100000 in
theorem ck_X6_conditions_24 : en_all x_X6_conditions_24 m_X6_conditions_24 u_X6_conditions_24 17 = true := by decide +kernel
theorem ct_X6_conditions_24 {l : Launch} (hl : l.stackTraces = false) {PP : Int32 → Int32 → Prop} (hPP : en_P0 PP) (Ω : Nat → en_H → va_W → Prop) : en_Ctr l vwCl en_TY0 PP en_om0 Ω en_KT yX6_conditions (Cond.code yX6_conditions cX6_conditions 3 (some .int) :: en_cw) (en_rm 0 (0, 0)) 0 k_X6_conditions_24 :=
  en_main (X := x_X6_conditions_24) (M := m_X6_conditions_24) hPP en_f32_ok en_f64_ok hl (by decide +kernel) ⟨en_FTX6_ok, en_PTX6_ok, en_an, en_LTX6_ok, en_LLX6_ok, en_TTX6_ok hl, ⟨cw256, cw147⟩, en_ACX6_ok⟩ de_X6_conditions ck_X6_conditions_24
def k_X6_conditions_25 : en_K := (2, ([.inr (.inl 0), .inl (3, 3, 0, 0), .inl (3, 3, 0, 0)], [(0, 0, 8, 2, 0, 0)]), [([.inr (.inl 0), .inl (3, 3, 0, 0), .inl (3, 3, 0, 0)], [(0, 0, 8, 1, 0, 0)])], [(0, 8)], [0], (0, 0), [])
def u_X6_conditions_25 : List en_U := []
def x_X6_conditions_25 : en_Cx := ((en_KT, en_TY0, en_om0), en_FTX6, en_PTX6, [], en_LTX6, en_LLX6, en_TTX6, en_ACX6)
def m_X6_conditions_25 : en_Mx := (k_X6_conditions_25, 0, 3, (0, 0), tb_X6_conditions, [])
set_option maxRecDepth 100000 in
theorem ck_X6_conditions_25 : en_all x_X6_conditions_25 m_X6_conditions_25 u_X6_conditions_25 17 = true := by decide +kernel
theorem ct_X6_conditions_25 {l : Launch} (hl : l.stackTraces = false) {PP : Int32 → Int32 → Prop} (hPP : en_P0 PP) (Ω : Nat → en_H → va_W → Prop) : en_Ctr l vwCl en_TY0 PP en_om0 Ω en_KT yX6_conditions (Cond.code yX6_conditions cX6_conditions 3 (some .int) :: en_cw) (en_rm 0 (0, 0)) 0 k_X6_conditions_25 :=
  en_main (X := x_X6_conditions_25) (M := m_X6_conditions_25) hPP en_f32_ok en_f64_ok hl (by decide +kernel) ⟨en_FTX6_ok, en_PTX6_ok, en_an, en_LTX6_ok, en_LLX6_ok, en_TTX6_ok hl, ⟨cw256, cw147⟩, en_ACX6_ok⟩ de_X6_conditions ck_X6_conditions_25
def k_X6_conditions_26 : en_K := (2, ([.inr (.inl 0), .inl ((-2147483648), (-2), 0, 0), .inl ((-1), (-1), 0, 0)], [(0, 0, 8, 2, 0, 0)]), [], [], [], (1, 6), [0])
def u_X6_conditions_26 : List en_U := []
def x_X6_conditions_26 : en_Cx := ((en_KT, en_TY0, en_om0), en_FTX6, en_PTX6, [], en_LTX6, en_LLX6, en_TTX6, en_ACX6)
def m_X6_conditions_26 : en_Mx := (k_X6_conditions_26, 0, 3, (0, 0), tb_X6_conditions, [])
set_option maxRecDepth 100000 in
theorem ck_X6_conditions_26 : en_all x_X6_conditions_26 m_X6_conditions_26 u_X6_conditions_26 7 = true := by decide +kernel
theorem ct_X6_conditions_26 {l : Launch} (hl : l.stackTraces = false) {PP : Int32 → Int32 → Prop} (hPP : en_P0 PP) (Ω : Nat → en_H → va_W → Prop) : en_Ctr l vwCl en_TY0 PP en_om0 Ω en_KT yX6_conditions (Cond.code yX6_conditions cX6_conditions 3 (some .int) :: en_cw) (en_rm 0 (1, 6)) 0 k_X6_conditions_26 :=
  en_main (X := x_X6_conditions_26) (M := m_X6_conditions_26) hPP en_f32_ok en_f64_ok hl (by decide +kernel) ⟨en_FTX6_ok, en_PTX6_ok, en_an, en_LTX6_ok, en_LLX6_ok, en_TTX6_ok hl, ⟨cw256, cw147⟩, en_ACX6_ok⟩ de_X6_conditions ck_X6_conditions_26
def k_X6_conditions_27 : en_K := (2, ([.inr (.inl 0), .inl ((-2147483648), (-2), 0, 0), .inl (0, 0, 0, 0)], [(0, 0, 8, 2, 0, 0)]), [], [], [], (1, 6), [0])
def u_X6_conditions_27 : List en_U := []
def x_X6_conditions_27 : en_Cx := ((en_KT, en_TY0, en_om0), en_FTX6, en_PTX6, [], en_LTX6, en_LLX6, en_TTX6, en_ACX6)
def m_X6_conditions_27 : en_Mx := (k_X6_conditions_27, 0, 3, (0, 0), tb_X6_conditions, [])
set_option maxRecDepth 100000 in
theorem ck_X6_conditions_27 : en_all x_X6_conditions_27 m_X6_conditions_27 u_X6_conditions_27 7 = true := by decide +kernel
theorem ct_X6_conditions_27 {l : Launch} (hl : l.stackTraces = false) {PP : Int32 → Int32 → Prop} (hPP : en_P0 PP) (Ω : Nat → en_H → va_W → Prop) : en_Ctr l vwCl en_TY0 PP en_om0 Ω en_KT yX6_conditions (Cond.code yX6_conditions cX6_conditions 3 (some .int) :: en_cw) (en_rm 0 (1, 6)) 0 k_X6_conditions_27 :=
  en_main (X := x_X6_conditions_27) (M := m_X6_conditions_27) hPP en_f32_ok en_f64_ok hl (by decide +kernel) ⟨en_FTX6_ok, en_PTX6_ok, en_an, en_LTX6_ok, en_LLX6_ok, en_TTX6_ok hl, ⟨cw256, cw147⟩, en_ACX6_ok⟩ de_X6_conditions ck_X6_conditions_27
def k_X6_conditions_28 : en_K := (2, ([.inr (.inl 0), .inl ((-2147483648), (-2), 0, 0), .inl (1, 1, 0, 0)], [(0, 0, 8, 2, 0, 0)]), [], [], [], (1, 6), [0])
def u_X6_conditions_28 : List en_U := []
def x_X6_conditions_28 : en_Cx := ((en_KT, en_TY0, en_om0), en_FTX6, en_PTX6, [], en_LTX6, en_LLX6, en_TTX6, en_ACX6)
def m_X6_conditions_28 : en_Mx := (k_X6_conditions_28, 0, 3, (0, 0), tb_X6_conditions, [])
set_option maxRecDepth 100000 in
theorem ck_X6_conditions_28 : en_all x_X6_conditions_28 m_X6_conditions_28 u_X6_conditions_28 7 = true := by decide +kernel
theorem ct_X6_conditions_28 {l : Launch} (hl : l.stackTraces = false) {PP : Int32 → Int32 → Prop} (hPP : en_P0 PP) (Ω : Nat → en_H → va_W → Prop) : en_Ctr l vwCl en_TY0 PP en_om0 Ω en_KT yX6_conditions (Cond.code yX6_conditions cX6_conditions 3 (some .int) :: en_cw) (en_rm 0 (1, 6)) 0 k_X6_conditions_28 :=
  en_main (X := x_X6_conditions_28) (M := m_X6_conditions_28) hPP en_f32_ok en_f64_ok hl (by decide +kernel) ⟨en_FTX6_ok, en_PTX6_ok, en_an, en_LTX6_ok, en_LLX6_ok, en_TTX6_ok hl, ⟨cw256, cw147⟩, en_ACX6_ok⟩ de_X6_conditions ck_X6_conditions_28
def k_X6_conditions_29 : en_K := (2, ([.inr (.inl 0), .inl ((-2147483648), (-2), 0, 0), .inl (2, 2, 0, 0)], [(0, 0, 8, 2, 0, 0)]), [], [], [], (1, 6), [0])
def u_X6_conditions_29 : List en_U := []
def x_X6_conditions_29 : en_Cx := ((en_KT, en_TY0, en_om0), en_FTX6, en_PTX6, [], en_LTX6, en_LLX6, en_TTX6, en_ACX6)
def m_X6_conditions_29 : en_Mx := (k_X6_conditions_29, 0, 3, (0, 0), tb_X6_conditions, [])
set_option maxRecDepth 100000 in
theorem ck_X6_conditions_29 : en_all x_X6_conditions_29 m_X6_conditions_29 u_X6_conditions_29 7 = true := by decide +kernel
theorem ct_X6_conditions_29 {l : Launch} (hl : l.stackTraces = false) {PP : Int32 → Int32 → Prop} (hPP : en_P0 PP) (Ω : Nat → en_H → va_W → Prop) : en_Ctr l vwCl en_TY0 PP en_om0 Ω en_KT yX6_conditions (Cond.code yX6_conditions cX6_conditions 3 (some .int) :: en_cw) (en_rm 0 (1, 6)) 0 k_X6_conditions_29 :=
  en_main (X := x_X6_conditions_29) (M := m_X6_conditions_29) hPP en_f32_ok en_f64_ok hl (by decide +kernel) ⟨en_FTX6_ok, en_PTX6_ok, en_an, en_LTX6_ok, en_LLX6_ok, en_TTX6_ok hl, ⟨cw256, cw147⟩, en_ACX6_ok⟩ de_X6_conditions ck_X6_conditions_29
def k_X6_conditions_30 : en_K := (2, ([.inr (.inl 0), .inl ((-2147483648), (-2), 0, 0), .inl (3, 3, 0, 0)], [(0, 0, 8, 2, 0, 0)]), [], [], [], (1, 6), [0])
def u_X6_conditions_30 : List en_U := []
def x_X6_conditions_30 : en_Cx := ((en_KT, en_TY0, en_om0), en_FTX6, en_PTX6, [], en_LTX6, en_LLX6, en_TTX6, en_ACX6)
def m_X6_conditions_30 : en_Mx := (k_X6_conditions_30, 0, 3, (0, 0), tb_X6_conditions, [])
set_option maxRecDepth 100000 in
theorem ck_X6_conditions_30 : en_all x_X6_conditions_30 m_X6_conditions_30 u_X6_conditions_30 7 = true := by decide +kernel
theorem ct_X6_conditions_30 {l : Launch} (hl : l.stackTraces = false) {PP : Int32 → Int32 → Prop} (hPP : en_P0 PP) (Ω : Nat → en_H → va_W → Prop) : en_Ctr l vwCl en_TY0 PP en_om0 Ω en_KT yX6_conditions (Cond.code yX6_conditions cX6_conditions 3 (some .int) :: en_cw) (en_rm 0 (1, 6)) 0 k_X6_conditions_30 :=
  en_main (X := x_X6_conditions_30) (M := m_X6_conditions_30) hPP en_f32_ok en_f64_ok hl (by decide +kernel) ⟨en_FTX6_ok, en_PTX6_ok, en_an, en_LTX6_ok, en_LLX6_ok, en_TTX6_ok hl, ⟨cw256, cw147⟩, en_ACX6_ok⟩ de_X6_conditions ck_X6_conditions_30
def k_X6_conditions_31 : en_K := (2, ([.inr (.inl 0), .inl (4, 2147483647, 0, 0), .inl ((-1), (-1), 0, 0)], [(0, 0, 8, 2, 0, 0)]), [], [], [], (1, 6), [0])
def u_X6_conditions_31 : List en_U := []
def x_X6_conditions_31 : en_Cx := ((en_KT, en_TY0, en_om0), en_FTX6, en_PTX6, [], en_LTX6, en_LLX6, en_TTX6, en_ACX6)
def m_X6_conditions_31 : en_Mx := (k_X6_conditions_31, 0, 3, (0, 0), tb_X6_conditions, [])
set_option maxRecDepth 100000 in
theorem ck_X6_conditions_31 : en_all x_X6_conditions_31 m_X6_conditions_31 u_X6_conditions_31 10 = true := by decide +kernel
theorem ct_X6_conditions_31 {l : Launch} (hl : l.stackTraces = false) {PP : Int32 → Int32 → Prop} (hPP : en_P0 PP) (Ω : Nat → en_H → va_W → Prop) : en_Ctr l vwCl en_TY0 PP en_om0 Ω en_KT yX6_conditions (Cond.code yX6_conditions cX6_conditions 3 (some .int) :: en_cw) (en_rm 0 (1, 6)) 0 k_X6_conditions_31 :=
  en_main (X := x_X6_conditions_31) (M := m_X6_conditions_31) hPP en_f32_ok en_f64_ok hl (by decide +kernel) ⟨en_FTX6_ok, en_PTX6_ok, en_an, en_LTX6_ok, en_LLX6_ok, en_TTX6_ok hl, ⟨cw256, cw147⟩, en_ACX6_ok⟩ de_X6_conditions ck_X6_conditions_31
def k_X6_conditions_32 : en_K := (2, ([.inr (.inl 0), .inl (4, 2147483647, 0, 0), .inl (0, 0, 0, 0)], [(0, 0, 8, 2, 0, 0)]), [], [], [], (1, 6), [0])
def u_X6_conditions_32 : List en_U := []
def x_X6_conditions_32 : en_Cx := ((en_KT, en_TY0, en_om0), en_FTX6, en_PTX6, [], en_LTX6, en_LLX6, en_TTX6, en_ACX6)
def m_X6_conditions_32 : en_Mx := (k_X6_conditions_32, 0, 3, (0, 0), tb_X6_conditions, [])
set_option maxRecDepth 100000 in
theorem ck_X6_conditions_32 : en_all x_X6_conditions_32 m_X6_conditions_32 u_X6_conditions_32 10 = true := by decide +kernel
theorem ct_X6_conditions_32 {l : Launch} (hl : l.stackTraces = false) {PP : Int32 → Int32 → Prop} (hPP : en_P0 PP) (Ω : Nat → en_H → va_W → Prop) : en_Ctr l vwCl en_TY0 PP en_om0 Ω en_KT yX6_conditions (Cond.code yX6_conditions cX6_conditions 3 (some .int) :: en_cw) (en_rm 0 (1, 6)) 0 k_X6_conditions_32 :=
  en_main (X := x_X6_conditions_32) (M := m_X6_conditions_32) hPP en_f32_ok en_f64_ok hl (by decide +kernel) ⟨en_FTX6_ok, en_PTX6_ok, en_an, en_LTX6_ok, en_LLX6_ok, en_TTX6_ok hl, ⟨cw256, cw147⟩, en_ACX6_ok⟩ de_X6_conditions ck_X6_conditions_32
def k_X6_conditions_33 : en_K := (2, ([.inr (.inl 0), .inl (4, 2147483647, 0, 0), .inl (1, 1, 0, 0)], [(0, 0, 8, 2, 0, 0)]), [], [], [], (1, 6), [0])
def u_X6_conditions_33 : List en_U := []
def x_X6_conditions_33 : en_Cx := ((en_KT, en_TY0, en_om0), en_FTX6, en_PTX6, [], en_LTX6, en_LLX6, en_TTX6, en_ACX6)
def m_X6_conditions_33 : en_Mx := (k_X6_conditions_33, 0, 3, (0, 0), tb_X6_conditions, [])
set_option maxRecDepth 100000 in
theorem ck_X6_conditions_33 : en_all x_X6_conditions_33 m_X6_conditions_33 u_X6_conditions_33 10 = true := by decide +kernel
theorem ct_X6_conditions_33 {l : Launch} (hl : l.stackTraces = false) {PP : Int32 → Int32 → Prop} (hPP : en_P0 PP) (Ω : Nat → en_H → va_W → Prop) : en_Ctr l vwCl en_TY0 PP en_om0 Ω en_KT yX6_conditions (Cond.code yX6_conditions cX6_conditions 3 (some .int) :: en_cw) (en_rm 0 (1, 6)) 0 k_X6_conditions_33 :=
  en_main (X := x_X6_conditions_33) (M := m_X6_conditions_33) hPP en_f32_ok en_f64_ok hl (by decide +kernel) ⟨en_FTX6_ok, en_PTX6_ok, en_an, en_LTX6_ok, en_LLX6_ok, en_TTX6_ok hl, ⟨cw256, cw147⟩, en_ACX6_ok⟩ de_X6_conditions ck_X6_conditions_33
